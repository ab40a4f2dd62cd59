/** What the tests share: counting answers that are not due, and telling a city things in fewer words. */
final class Check {
    static final int BYTES = 0, SHORTS = 1, INTS = 2;

    private static int wrong = 0;

    private Check() {
    }

    static void due(String call, long got, long want) {
        if (got != want) {
            wrong++;
            System.out.println(call + " answered " + got + ", due is " + want);
        }
    }

    static void end() {
        if (wrong != 0) {
            System.out.println(wrong + " answers are not as due");
            System.exit(1);
        }
    }

    /** Sheet s becomes a row of ints with these numbers. */
    static void write(RubbleCity x, int s, int... numbers) {
        writeSort(x, s, INTS, numbers);
    }

    static void writeSort(RubbleCity x, int s, int sort, int... numbers) {
        due("sheet", x.sheet(s, sort, numbers.length), 1);
        for (int i = 0; i < numbers.length; i++) {
            due("cell", x.cell(s, i, numbers[i]), 1);
        }
    }

    static int row(RubbleCity x, int r, int from, int to, int... hands) {
        write(x, 3, hands);
        return x.row(r, 3, from, to);
    }

    static int rail(RubbleCity x, int r, int cars, int... way) {
        write(x, 3, way);
        return x.rail(r, 3, cars);
    }

    static int pulls(RubbleCity x, int... walls) {
        write(x, 3, walls);
        return x.pulls(3);
    }

    /** Feeds a text (signs 0 to 255), eight bytes at a time, and answers what the last feed did. */
    static int feed(RubbleCity x, String text) {
        int answer = 0;
        for (int i = 0; i < text.length(); i += 8) {
            int n = Math.min(8, text.length() - i);
            long w = 0;
            for (int j = 0; j < n; j++) {
                w = w << 8 | text.charAt(i + j);
            }
            answer = x.feed(w, n);
        }
        return answer;
    }

    static int order(RubbleCity x, String text) {
        feed(x, text);
        return x.order();
    }

    /** Makes the text an ORDER and THE RULE. */
    static void rule(RubbleCity x, String text) {
        int o = order(x, text);
        due("order " + text, o >= 0 ? 1 : o, 1);
        x.force(o);
    }

    static void days(RubbleCity x, int n) {
        for (int left = n; left > 0; left -= 60) {
            x.run(Math.min(left, 60));
        }
    }

    /** All that the looking calls tell, as one text. */
    static String all(RubbleCity x) {
        StringBuilder told = new StringBuilder();
        for (int what = 0; what < 14; what++) {
            told.append(x.count(what)).append(' ');
        }
        for (int c = 0; c < 100; c++) {
            told.append(x.cellTold(c, 0)).append(' ').append(x.cellTold(c, 1)).append(' ');
            told.append(x.likely(c, 0)).append('/').append(x.likely(c, 1)).append(' ');
        }
        for (int p = 0; p < 24; p++) {
            for (int what = 0; what < 7; what++) {
                told.append(x.personTold(p, what)).append(' ');
            }
            for (int key = 0; key < 3; key++) {
                told.append(x.says(p, key)).append(' ');
            }
        }
        for (int k = 0; k < 16; k++) {
            for (int what = 0; what < 3; what++) {
                told.append(x.wallTold(k, what)).append(' ').append(x.roomTold(k, what)).append(' ');
                told.append(x.rowTold(k, what)).append(' ').append(x.railTold(k, what)).append(' ');
            }
            told.append(x.pullTold(k)).append(' ');
        }
        for (int lot = 0; lot < 12; lot++) {
            told.append(x.owner(lot, 2000, x.count(0))).append(' ').append(x.owner(lot, 9, 0)).append(' ');
        }
        return told.append(x.mendTold()).append(' ').append(x.next()).toString();
    }
}
