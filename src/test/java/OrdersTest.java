import java.util.Random;
import java.util.regex.Matcher;
import java.util.regex.Pattern;

/** Promises 11 to 15: the tape, orders, the rule, what a key says, and days. */
public final class OrdersTest {
    private static final int NONE = -1, BAD = -2, FULL = -4;

    private static final String TEST = "(strong|age|kin|hurt|wet|wind|day|worked)[<>=][0-9]{1,3}";
    private static final Pattern ORDER = Pattern.compile(
            "((work|card|stay) [0-9]{1,3}( if " + TEST + "(&" + TEST + "){0,2})?;){1,8}");

    public static void main(String[] args) {
        feed();
        order();
        faults();
        faultsAsThePatternTells();
        force();
        says();
        bounds();
        run();
        dayByDay();
        Check.end();
    }

    private static void feed() {
        RubbleCity x = new RubbleCity();
        Check.due("feed 0", x.feed(0, 0), BAD);
        Check.due("feed -1", x.feed(0, -1), BAD);
        Check.due("feed 9", x.feed(0, 9), BAD);
        Check.due("the tape", x.count(11), 0);
        // Higher bytes than n do not count; the highest of the n comes first.
        Check.due("feed", x.feed(0x7F7F7F7F636172L, 3), 3);
        Check.due("feed", x.feed('d', 1), 4);
        Check.due("feed", x.feed(0x2034_3BL, 3), 7);
        Check.due("order", x.order(), 0);
        x.person(0, 1, 1, 1);
        x.force(0);
        Check.due("card 4;", x.says(0, 1), 4);
        for (int n = 8; n <= 152; n += 8) {
            Check.due("feed", x.feed(-1L, 8), n);
        }
        Check.due("feed", x.feed(-1L, 7), 159);
        Check.due("feed 2 of 1", x.feed(-1L, 2), FULL);
        Check.due("feed 9 of 1", x.feed(-1L, 9), BAD);
        Check.due("the tape", x.count(11), 159);
        Check.due("feed", x.feed(-1L, 1), 160);
        Check.due("feed", x.feed(-1L, 1), FULL);
        Check.due("the tape", x.count(11), 160);
        Check.due("order of 255s", x.order(), -100);
        Check.due("the tape is empty", x.count(11), 0);
    }

    private static void order() {
        RubbleCity x = new RubbleCity();
        Check.due("an empty tape", x.order(), -100);
        String[] orders = {"work 5;", "stay 0;card 123;work 08;", "card 1 if strong<1;",
            "work 1 if age>99&kin=0&hurt<9;stay 2 if wet>1&wind=2;card 3 if day=999&worked>000;",
            "work 1;work 2;work 3;work 4;work 5;work 6;work 7;work 8;"};
        for (int o = 0; o < orders.length; o++) {
            Check.due(orders[o], Check.order(x, orders[o]), o);
            Check.due("the tape is empty", x.count(11), 0);
        }
        Check.due("a fault", Check.order(x, "card 7;stay 9;work 1 if age<1&kin"), -133);
        Check.due("a fault", Check.order(x, "work 5 if age<9&walk"), -117);
        Check.due("a fault", Check.order(x, "walk"), -101);
        Check.due("the tape is empty behind a fault", x.count(11), 0);
        Check.due("orders", x.count(9), 5);
        Check.due("the sixth", Check.order(x, "work 5;"), 5);
        x.person(0, 1, 50, 1);
        x.force(5);
        Check.due("nothing of a fault stays", x.says(0, 0), 5);
        Check.due("nothing of a fault stays", x.says(0, 1), 0);
        Check.due("nothing of a fault stays", x.says(0, 2), 0);
        Check.due("orders", x.count(9), 6);
        Check.feed(x, "walk");
        Check.due("full ahead of the fault", x.order(), FULL);
        Check.due("the tape stays", x.count(11), 4);
    }

    private static void fault(String text, int place) {
        RubbleCity x = new RubbleCity();
        Check.due("order of " + text, Check.order(x, text), -100 - place);
        Check.due("orders", x.count(9), 0);
    }

    private static void faults() {
        fault(" work 5;", 0);
        fault("w", 1);
        fault("work", 4);
        fault("work5;", 4);
        fault("work  5;", 5);
        fault("work ;", 5);
        fault("work 1234;", 8);
        fault("work 123", 8);
        fault("work -1;", 5);
        fault("work 5 ;", 7);
        fault("work 5 i", 8);
        fault("work 5 if ", 10);
        fault("work 5 if;", 9);
        fault("work 5 if  age<1;", 10);
        fault("work 5 if wax<1;", 11);
        fault("work 5 if worn<1;", 13);
        fault("work 5 if wind<1&", 17);
        fault("work 5 if wit", 12);
        fault("work 5 if worke<5;", 15);
        fault("work 5 if age5;", 13);
        fault("work 5 if age<=5;", 14);
        fault("work 5 if age<5&;", 16);
        fault("work 5 if age<5 &kin<3;", 15);
        fault("work 5 if age<5555;", 17);
        fault("work 5 if age<1&kin<2&wet<3&day<4;", 27);
        fault("work 5 if age<1&kin<2&wet<3", 27);
        fault("work 5;;", 7);
        fault("work 5; card 1;", 7);
        fault("work 5;cart 1;", 10);
        fault("Work 5;", 0);
        String eight = "work 1;card 2;stay 3;work 4;card 5;stay 6;work 7;card 8;";
        fault(eight + "work 9;", 56);
        fault(eight + "x", 56);
        fault("stay 6;work 7;card", 18);
    }

    /** A text is a beginning of some ORDER if the pattern matches or came to its end. */
    private static int faultOf(String text) {
        if (ORDER.matcher(text).matches()) {
            return -1;
        }
        for (int n = 1; n <= text.length(); n++) {
            Matcher beginning = ORDER.matcher(text.substring(0, n));
            if (!beginning.matches() && !beginning.hitEnd()) {
                return n - 1;
            }
        }
        return text.length();
    }

    private static void faultsAsThePatternTells() {
        Random random = new Random(11);
        String signs = "workcardstyngeihudf <>=&;0123456789";
        for (int i = 0; i < 4000; i++) {
            StringBuilder text = new StringBuilder(randomOrder(random));
            for (int hits = random.nextInt(3); hits > 0; hits--) {
                int at = random.nextInt(text.length());
                char sign = signs.charAt(random.nextInt(signs.length()));
                switch (random.nextInt(4)) {
                    case 0:
                        text.setCharAt(at, sign);
                        break;
                    case 1:
                        text.insert(at, sign);
                        break;
                    case 2:
                        text.deleteCharAt(at);
                        break;
                    default:
                        text.setLength(at);
                }
                if (text.length() == 0) {
                    text.append(sign);
                }
            }
            if (text.length() > 160) {
                text.setLength(160);
            }
            int place = faultOf(text.toString());
            Check.due(text.toString(), Check.order(new RubbleCity(), text.toString()), place < 0 ? 0 : -100 - place);
        }
    }

    private static String randomOrder(Random random) {
        String[] keys = {"work", "card", "stay"};
        String[] fields = {"strong", "age", "kin", "hurt", "wet", "wind", "day", "worked"};
        StringBuilder text = new StringBuilder();
        for (int lines = random.nextInt(10); lines >= 0; lines--) {
            text.append(keys[random.nextInt(3)]).append(' ').append(random.nextInt(random.nextInt(1200) + 1));
            int tests = random.nextInt(5);
            for (int t = 0; t < tests; t++) {
                text.append(t == 0 ? " if " : "&").append(fields[random.nextInt(8)]);
                text.append("<>=".charAt(random.nextInt(3))).append(random.nextInt(12));
            }
            text.append(';');
        }
        return text.toString();
    }

    private static void force() {
        RubbleCity x = new RubbleCity();
        Check.due("force 0 of 0", x.force(0), -5);
        Check.order(x, "work 5;");
        Check.order(x, "work 6;");
        Check.due("force -2", x.force(-2), -5);
        Check.due("force 2", x.force(2), -5);
        Check.due("force", x.force(1), -1);
        Check.due("the rule", x.count(10), 1);
        Check.due("force 2", x.force(2), -5);
        Check.due("force", x.force(0), 1);
        Check.due("force", x.force(-1), 0);
        Check.due("the rule", x.count(10), -1);
    }

    private static void says() {
        RubbleCity x = new RubbleCity();
        x.person(0, 4, 30, 2);
        Check.due("says nobody, no key", x.says(1, 3), NONE);
        Check.due("says -1", x.says(-1, 0), NONE);
        Check.due("says key -1", x.says(0, -1), BAD);
        Check.due("says key 3", x.says(0, 3), BAD);
        Check.due("work without a rule", x.says(0, 0), 8);
        Check.due("card without a rule", x.says(0, 1), 1);
        Check.due("stay without a rule", x.says(0, 2), 0);
        Check.rule(x, "card 7 if age>30;card 6 if age<30;card 5 if age=30&kin=3;card 999 if age=30&kin=2;card 4;");
        Check.due("card", x.says(0, 1), 999);
        Check.due("no line with work", x.says(0, 0), 0);
        x.force(-1);
        Check.due("work without a rule again", x.says(0, 0), 8);
        RubbleCity y = workedFiveDays();
        says(y, "strong", 7);
        says(y, "age", 30);
        says(y, "kin", 2);
        says(y, "hurt", 3);
        RubbleCity z = workedFiveDays();
        says(z, "wet", 3);
        says(z, "wind", 8);
        says(z, "day", 5);
        says(z, "worked", 40);
    }

    private static RubbleCity workedFiveDays() {
        RubbleCity x = new RubbleCity();
        x.person(1, 7, 30, 2);
        x.ruin(1, 0, 1000);
        x.pull(x.wall(0, 1, 9));
        x.weather(3, 8);
        Check.row(x, 0, 1, 2, 0);
        x.run(5);
        return x;
    }

    /** The field has the value: three tests of each sign, of which one holds. */
    private static void says(RubbleCity x, String field, int value) {
        String below = field + "<" + value;
        String above = field + ">" + value;
        String same = field + "=" + value;
        Check.rule(x, "stay 1 if " + below + ";stay 2 if " + above + ";stay 3 if " + same + ";"
                + "work 4 if " + field + "<" + (value + 1) + "&" + field + ">" + (value - 1) + "&" + same + ";"
                + "card 5 if " + same + "&" + below + ";card 6;");
        Check.due(field, x.says(0, 2), 3);
        Check.due(field, x.says(0, 0), 4);
        Check.due(field, x.says(0, 1), 6);
    }

    /** Work counts up to 14, card up to 9; says tells the number itself. */
    private static void bounds() {
        RubbleCity x = new RubbleCity();
        x.ruin(44, 0, 1000);
        x.person(0, 2, 30, 1);
        x.person(0, 9, 30, 1);
        Check.row(x, 0, 44, 45, 0, 1);
        Check.rule(x, "work 15;card 10;");
        Check.due("says work", x.says(0, 0), 15);
        Check.due("passes", x.personTold(0, 5), 28);
        x.run(1);
        Check.due("left", x.rowTold(0, 1), 28);
        Check.due("worked", x.personTold(0, 2), 14);
        Check.due("given", x.personTold(0, 3), 9);
        Check.rule(x, "work 14;card 9;stay 1 if strong=2;");
        Check.due("one who stays passes", x.personTold(0, 5), 0);
        Check.due("the other passes", x.personTold(1, 5), 126);
        x.run(1);
        Check.due("left", x.rowTold(0, 1), 0);
        Check.due("stuck", x.rowTold(0, 2), 0);
        Check.due("worked", x.personTold(1, 2), 14);
        Check.due("given", x.personTold(1, 3), 18);
    }

    private static void run() {
        RubbleCity x = new RubbleCity();
        Check.due("run 0", x.run(0), BAD);
        Check.due("run -1", x.run(-1), BAD);
        Check.due("run 61", x.run(61), BAD);
        Check.due("run", x.run(1), 1);
        for (int i = 1; i <= 33; i++) {
            Check.due("run", x.run(60), 1 + 60 * i);
        }
        Check.due("run beyond 2000", x.run(20), FULL);
        Check.due("run 61 beyond 2000", x.run(61), BAD);
        Check.due("day", x.count(0), 1981);
        Check.due("run to 2000", x.run(19), 2000);
        Check.due("run on", x.run(1), FULL);
        Check.due("day", x.count(0), 2000);
    }

    /** The parts of a day come in their order. */
    private static void dayByDay() {
        // A wall falls where the hands work; they passed on before, and get cards by what they are then.
        RubbleCity x = new RubbleCity();
        x.ruin(44, 0, 100);
        x.person(0, 4, 30, 1);
        x.person(44, 4, 30, 1);
        x.person(44, 4, 30, 1);
        Check.row(x, 0, 44, 45, 0);
        Check.row(x, 1, 45, 55, 1);
        Check.rail(x, 0, 1, 55, 54);
        x.wall(43, 1, 20);
        Check.rule(x, "work 5;card 2 if hurt<3;card 3 if worked>4;card 4;");
        x.weather(0, 7);
        x.run(1);
        Check.due("row 0", x.rowTold(0, 1), 20);
        Check.due("row 1 takes what row 0 brought", x.rowTold(1, 1), 12);
        Check.due("the rail takes what row 1 brought", x.railTold(0, 1), 8);
        Check.due("fallen", x.wallTold(0, 0), 0);
        Check.due("loads of the wall", x.cellTold(44, 0), 100);
        Check.due("hurt at work", x.personTold(0, 1), 3);
        Check.due("card", x.personTold(0, 3), 3);
        Check.due("not there", x.personTold(1, 1), 0);
        Check.due("card", x.personTold(1, 3), 2);
        Check.due("hurt at home", x.personTold(2, 1), 3);
        Check.due("card", x.personTold(2, 3), 4);
        Check.due("passes when hurt", x.personTold(0, 5), 5);
        // HURT is less behind each seventh day, and never below 0.
        x.run(5);
        Check.due("hurt on day 6", x.personTold(0, 1), 3);
        x.run(1);
        Check.due("hurt on day 7", x.personTold(0, 1), 2);
        Check.due("not below 0", x.personTold(1, 1), 0);
        x.run(14);
        Check.due("hurt on day 21", x.personTold(0, 1), 0);
        x.run(7);
        Check.due("hurt on day 28", x.personTold(0, 1), 0);
        deaths();
        wear();
    }

    private static void deaths() {
        RubbleCity x = new RubbleCity();
        x.person(44, 9, 30, 1);
        x.person(0, 9, 30, 1);
        x.weather(0, 9);
        for (int i = 0; i < 3; i++) {
            x.wall(43, 1, 27);
        }
        x.run(7);
        Check.due("three walls at once", x.personTold(0, 1), 9);
        Check.due("dead", x.personTold(0, 4), 1);
        Check.due("the dead aren't given", x.personTold(0, 3), 0);
        Check.due("the others are", x.personTold(1, 3), 7);
        Check.due("dead ones", x.count(8), 1);
        Check.due("passes", x.personTold(0, 5), 0);
        // The document leaves nobody out: a wall hurts the dead who lie there.
        x.wall(43, 1, 27);
        x.run(1);
        Check.due("hurt of the dead", x.personTold(0, 1), 12);
        // A hand is at home as soon as it passes nothing.
        RubbleCity y = new RubbleCity();
        y.person(0, 3, 30, 1);
        Check.row(y, 0, 44, 45, 0);
        y.weather(0, 9);
        y.wall(43, 1, 1);
        y.wall(43, 1, 1);
        y.wall(1, 3, 1);
        Check.due("at work", y.personTold(0, 6), 44);
        y.run(1);
        Check.due("hurt at work, then at home", y.personTold(0, 1), 6);
        Check.due("at home", y.personTold(0, 6), 0);
    }

    private static void wear() {
        RubbleCity x = new RubbleCity();
        x.ruin(44, 3, 0);
        x.wall(44, 0, 50);
        x.wall(45, 0, 50);
        x.wall(46, 0, 2);
        x.weather(9, 0);
        x.run(1);
        Check.due("9 times 7 by 10", x.wallTold(0, 1), 44);
        Check.due("9 times 3 by 10", x.wallTold(1, 1), 48);
        Check.due("down at 0", x.wallTold(2, 0), 0);
        Check.due("its loads", x.cellTold(56, 0), 20);
        x.weather(9, 9);
        x.run(1);
        Check.due("above 27", x.wallTold(0, 1), 38);
        Check.due("the fallen wears no more", x.wallTold(2, 1), 0);
        Check.due("and falls no more", x.cellTold(56, 0), 20);
        x.weather(0, 9);
        x.run(1);
        Check.due("stands", x.wallTold(0, 1), 38);
        x.weather(9, 9);
        x.run(1);
        Check.due("above 27", x.wallTold(0, 0), 1);
        x.run(1);
        Check.due("below 27", x.wallTold(0, 0), 0);
        Check.due("what it had", x.wallTold(0, 1), 26);
        RubbleCity y = new RubbleCity();
        y.wall(44, 0, 28);
        y.wall(44, 0, 27);
        y.weather(0, 9);
        y.run(1);
        Check.due("28", y.wallTold(0, 0), 1);
        Check.due("27", y.wallTold(1, 0), 0);
        RubbleCity z = new RubbleCity();
        z.ruin(44, 3, 0);
        z.wall(44, 0, 1);
        z.weather(9, 0);
        z.run(1);
        Check.due("below 0", z.wallTold(0, 1), -5);
    }
}
