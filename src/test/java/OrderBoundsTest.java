/** The bounds that part 2, ORDERS, names: the tape, lines, digits, tests, where a fault is, what a key says. */
public final class OrderBoundsTest {
    private static final int FULL = -4;
    private static final String[] KEYS = {"work", "card", "stay"};
    private static final String[] FIELDS = {"strong", "age", "kin", "hurt", "wet", "wind", "day", "worked"};

    public static void main(String[] args) {
        sixOrders();
        linesOfAnOrder();
        digitsOfANumber();
        testsOfALine();
        eachFieldAndSign();
        endsTooEarly();
        everyByteAtEveryPlace();
        aTapeOf160Bytes();
        theLowestBytes();
        firstLineThatHolds();
        withoutARule();
        greatNumbers();
        Check.end();
    }

    private static void sixOrders() {
        RubbleCity x = new RubbleCity();
        for (int o = 0; o < 6; o++) {
            Check.due("force " + o + " ahead of it", x.force(o), -5);
            Check.due("order " + o, Check.order(x, "work " + o + ";"), o);
            Check.due("orders", x.count(9), o + 1);
        }
        Check.due("the seventh", Check.order(x, "work 6;"), FULL);
        Check.due("the tape stays", x.count(11), 7);
        Check.due("orders", x.count(9), 6);
        Check.due("again", x.order(), FULL);
        Check.due("the tape stays", x.count(11), 7);
        Check.due("and grows", x.feed(0, 1), 8);
        Check.due("force 6", x.force(6), -5);
        x.person(0, 1, 1, 1);
        for (int o = 0; o < 6; o++) {
            Check.due("force", x.force(o), o - 1);
            Check.due("each order is its own", x.says(0, 0), o);
        }
        // Full comes with an empty tape, too, which would be a fault otherwise.
        RubbleCity y = new RubbleCity();
        for (int o = 0; o < 6; o++) {
            Check.order(y, "stay 0;");
        }
        Check.due("an empty tape", y.order(), FULL);
    }

    /** A text is an ORDER (answer 0) or has its FAULT at a place; the tape is empty in both cases. */
    private static void reads(String text, int answer) {
        RubbleCity x = new RubbleCity();
        Check.due("order of '" + text + "'", Check.order(x, text), answer);
        Check.due("the tape", x.count(11), 0);
        Check.due("orders", x.count(9), answer == 0 ? 1 : 0);
    }

    private static void linesOfAnOrder() {
        StringBuilder text = new StringBuilder();
        reads("", -100);
        for (int lines = 1; lines <= 22; lines++) {
            text.append("card 7;");
            reads(text.toString(), lines <= 8 ? 0 : -100 - 56);
        }
        // The 9th line's first byte is the fault, whatever it is.
        String eight = text.substring(0, 56);
        for (int b = 0; b < 256; b++) {
            reads(eight + (char) b, -156);
        }
        // All eight lines are looked at.
        RubbleCity x = new RubbleCity();
        x.person(0, 1, 8, 1);
        Check.rule(x, "card 1 if age=1;card 2 if age=2;card 3 if age=3;card 4 if age=4;"
                + "card 5 if age=5;card 6 if age=6;card 7 if age=7;card 8 if age=8;");
        Check.due("the 8th line", x.says(0, 1), 8);
    }

    private static void digitsOfANumber() {
        String[] digits = {"", "0", "7", "00", "42", "000", "007", "999", "1000", "0000", "12345"};
        int[] value = {-1, 0, 7, 0, 42, 0, 7, 999, -1, -1, -1};
        for (int i = 0; i < digits.length; i++) {
            int fault = digits[i].isEmpty() ? 0 : 3;
            boolean taken = value[i] >= 0;
            reads("stay " + digits[i] + ";", taken ? 0 : -105 - fault);
            reads("stay 1 if age<" + digits[i] + ";", taken ? 0 : -114 - fault);
            if (taken) {
                RubbleCity x = new RubbleCity();
                x.person(0, 1, 7, 1);
                Check.rule(x, "work " + digits[i] + ";stay 1 if age=" + digits[i] + ";");
                Check.due("says " + digits[i], x.says(0, 0), value[i]);
                Check.due("age 7 = " + digits[i], x.says(0, 2), value[i] == 7 ? 1 : 0);
            }
        }
        // The signs beside the digits are none.
        reads("stay /;", -105);
        reads("stay :;", -105);
        reads("stay 1/;", -106);
        reads("stay 1:;", -106);
    }

    private static void testsOfALine() {
        String line = "work 1 if age<9";
        reads(line + ";", 0);
        reads(line + "&age<9;", 0);
        reads(line + "&age<9&age<9;", 0);
        reads(line + "&age<9&age<9&age<9;", -100 - 27);
        reads(line + "&age<9&age<9&", -100 - 27);
        reads(line + "&age<9&age<9 ", -100 - 27);
        reads(line + "&age<9&age<9", -100 - 27);
        reads("work 1 if ;", -110);
        reads("work 1 if &age<9;", -110);
        reads("work 1&age<9;", -106);
        reads(line + "&;", -116);
        reads(line + " if age<9;", -115);
        // All three tests count.
        for (int fails = 0; fails < 4; fails++) {
            StringBuilder text = new StringBuilder("work 5 if ");
            for (int t = 0; t < 3; t++) {
                text.append(t == 0 ? "" : "&").append(t == fails ? "age>9" : "age=9");
            }
            RubbleCity x = new RubbleCity();
            x.person(0, 1, 9, 1);
            Check.rule(x, text.append(';').toString());
            Check.due("test " + fails + " fails", x.says(0, 0), fails == 3 ? 5 : 0);
        }
    }

    /** Below, above and the same, at the number and beside it. */
    private static void eachFieldAndSign() {
        int[] value = {9, 99, 9, 0, 9, 9, 0, 0};
        for (int f = 0; f < FIELDS.length; f++) {
            for (int bound = Math.max(0, value[f] - 1); bound <= value[f] + 1; bound++) {
                RubbleCity y = new RubbleCity();
                y.person(7, 9, 99, 9);
                y.weather(9, 9);
                String test = FIELDS[f];
                Check.rule(y, "work 1 if " + test + "<" + bound + ";card 1 if " + test + ">" + bound
                        + ";stay 1 if " + test + "=" + bound + ";");
                Check.due(test + "<" + bound, y.says(0, 0), value[f] < bound ? 1 : 0);
                Check.due(test + ">" + bound, y.says(0, 1), value[f] > bound ? 1 : 0);
                Check.due(test + "=" + bound, y.says(0, 2), value[f] == bound ? 1 : 0);
            }
        }
    }

    private static void endsTooEarly() {
        for (String key : KEYS) {
            for (String field : FIELDS) {
                String whole = key + " 123 if " + field + "<456&" + field + ">7&" + field + "=89;";
                for (int n = 0; n < whole.length(); n++) {
                    reads(whole.substring(0, n), -100 - n);
                }
                reads(whole, 0);
                reads(whole + "w", -101 - whole.length());
            }
        }
    }

    /** In "card 1 if kin<2;" each byte is put in place of each: what may stand there is told by the document. */
    private static void everyByteAtEveryPlace() {
        String whole = "card 1 if kin<2;";
        // What else may stand at a place, as far as the bytes behind it don't matter.
        String[] begins = {"cws", "a", "r", "d", " ", "0123456789", " ;0123456789", "i", "f", " ", "sakhwd", "i",
            "n", "<>=", "0123456789", ";&0123456789"};
        for (int at = 0; at < whole.length(); at++) {
            for (int b = 0; b < 256; b++) {
                if (begins[at].indexOf(b) < 0) {
                    reads(whole.substring(0, at) + (char) b + whole.substring(at + 1), -100 - at);
                    reads(whole.substring(0, at) + (char) b, -100 - at);
                } else if (at + 1 < whole.length() && b != ';') {
                    reads(whole.substring(0, at) + (char) b, -101 - at);
                }
            }
        }
    }

    private static void aTapeOf160Bytes() {
        String line = "card 4 if age=4&age=4&kin=0;";
        StringBuilder text = new StringBuilder();
        for (int i = 0; i < 5; i++) {
            text.append(line);
        }
        text.append("stay 123 if age<010;");
        Check.due("bytes", text.length(), 160);
        RubbleCity x = new RubbleCity();
        Check.due("all bytes", Check.feed(x, text.toString()), 160);
        Check.due("no more", x.feed(';', 1), FULL);
        Check.due("an order to its last byte", x.order(), 0);
        x.person(0, 1, 4, 0);
        x.force(0);
        Check.due("its last line", x.says(0, 2), 123);
        text.setCharAt(159, '0');
        reads(text.toString(), -100 - 159);
        text.setCharAt(159, '&');
        reads(text.toString(), -100 - 160);
    }

    /** Only the n lowest bytes come, the highest of them first, whatever the sign of w. */
    private static void theLowestBytes() {
        String text = "work 12;";
        long w = 0;
        for (int i = 0; i < 8; i++) {
            w = w << 8 | text.charAt(i);
        }
        RubbleCity x = new RubbleCity();
        Check.due("eight at once", x.feed(w, 8), 8);
        Check.due("order", x.order(), 0);
        for (int n = 1; n < 8; n++) {
            RubbleCity y = new RubbleCity();
            long above = -1L << 8 * n;
            long low = (1L << 8 * n) - 1;
            Check.due("the first", y.feed(w >>> 8 * n | -1L << 8 * (8 - n), 8 - n), 8 - n);
            Check.due("the rest", y.feed(above | w & low, n), 8);
            Check.due("order in two", y.order(), 0);
            y.person(0, 1, 1, 1);
            y.force(0);
            Check.due("says", y.says(0, 0), 12);
        }
        // Bytes above 127 are what they are, not below 0: no order begins with them.
        RubbleCity z = new RubbleCity();
        z.feed(Long.MIN_VALUE, 8);
        Check.due("order", z.order(), -100);
    }

    private static void firstLineThatHolds() {
        RubbleCity x = new RubbleCity();
        x.person(0, 1, 50, 1);
        Check.rule(x, "card 3 if age>50;work 7;card 0 if age=50;card 2;");
        Check.due("the first that holds, though it is 0", x.says(0, 1), 0);
        Check.due("work", x.says(0, 0), 7);
        Check.due("no line", x.says(0, 2), 0);
        x.run(1);
        Check.due("given", x.personTold(0, 3), 0);
        Check.rule(x, "work 7 if age<50;work 6 if age>50;");
        Check.due("no line holds", x.says(0, 0), 0);
        Check.due("passes", x.personTold(0, 5), 0);
    }

    private static void withoutARule() {
        RubbleCity x = new RubbleCity();
        x.person(0, 1, 50, 1);
        int[] due = {8, 1, 0};
        for (int key = 0; key < 3; key++) {
            Check.due("without a rule " + key, x.says(0, key), due[key]);
        }
        Check.order(x, "work 3;card 3;stay 3;");
        for (int key = 0; key < 3; key++) {
            Check.due("an order that is not the rule " + key, x.says(0, key), due[key]);
        }
        x.force(0);
        for (int key = 0; key < 3; key++) {
            Check.due("the rule " + key, x.says(0, key), 3);
        }
        x.force(-1);
        for (int key = 0; key < 3; key++) {
            Check.due("without a rule again " + key, x.says(0, key), due[key]);
        }
    }

    /** DAY goes beyond what three digits can tell, and so may WORKED. */
    private static void greatNumbers() {
        RubbleCity x = new RubbleCity();
        x.person(0, 1, 50, 1);
        Check.rule(x, "work 1 if day<999;work 2 if day=999;work 3 if day>999;");
        Check.days(x, 998);
        Check.due("day 998", x.says(0, 0), 1);
        x.run(1);
        Check.due("day 999", x.says(0, 0), 2);
        x.run(1);
        Check.due("day 1000", x.says(0, 0), 3);
        Check.days(x, 1000);
        Check.due("day 2000", x.says(0, 0), 3);
    }
}
