/** Promises 42 to 46: sheets, people by a sheet, what stands in a cell taken for a kind. */
public final class HostTest {
    private static final int BAD = -2;
    private static final int NOTHING = -11, OUTSIDE = -12, OTHER = -13, BELOW = -14;
    private static final int MOST = Integer.MAX_VALUE, LEAST = Integer.MIN_VALUE;

    public static void main(String[] args) {
        sheet();
        cell();
        copy();
        people();
        peopleAhead();
        taken();
        Check.end();
    }

    private static void sheet() {
        RubbleCity x = new RubbleCity();
        Check.due("sheet -1", x.sheet(-1, -1, 0), BAD);
        Check.due("sheet 4", x.sheet(4, 0, -1), BAD);
        Check.due("sort -2", x.sheet(0, -2, -1), BAD);
        Check.due("sort 3", x.sheet(0, 3, -1), BAD);
        Check.due("41", x.sheet(0, 2, 41), BAD);
        Check.due("-1", x.sheet(0, 2, -1), BELOW);
        Check.due("least", x.sheet(0, 2, LEAST), BELOW);
        Check.due("still missing", x.cell(0, 0, 0), NOTHING);
        for (int sort = 0; sort < 3; sort++) {
            Check.due("40", x.sheet(0, sort, 40), 1);
            Check.due("last", x.cell(0, 39, 1), 1);
            Check.due("none", x.sheet(1, sort, 0), 1);
            Check.due("outside", x.cell(1, 0, 1), OUTSIDE);
        }
        Check.due("missing again", x.sheet(0, -1, 99), 1);
        Check.due("missing", x.cell(0, 0, 0), NOTHING);
        Check.due("missing again", x.sheet(0, -1, LEAST), 1);
        // Anew it is all 0: a person of strength 0 does not come.
        Check.write(x, 2, 1, 1, 1, 1);
        Check.due("one came", x.people(2, 2, 0, 1), 1);
        x.sheet(2, 2, 4);
        Check.due("none came", x.people(2, 2, 0, 1), 0);
        // A refused sheet stays as it was.
        Check.write(x, 2, 1, 1, 1, 1);
        x.sheet(2, 2, 41);
        x.sheet(2, 1, -1);
        x.sheet(2, 3, 4);
        Check.due("one came", x.people(2, 2, 0, 1), 1);
    }

    private static void cell() {
        RubbleCity x = new RubbleCity();
        Check.due("sheet -1", x.cell(-1, 0, 0), BAD);
        Check.due("sheet 4", x.cell(4, 0, 0), BAD);
        Check.due("missing", x.cell(0, -1, 0), NOTHING);
        x.sheet(0, 0, 3);
        Check.due("-1", x.cell(0, -1, 0), OUTSIDE);
        Check.due("3", x.cell(0, 3, 0), OUTSIDE);
        Check.due("most", x.cell(0, MOST, 0), OUTSIDE);
        // The lowest 8 and 16 bits, with their sign; told by the home of one who comes.
        home(Check.BYTES, 0x7FFF_FF05, 5);
        home(Check.BYTES, 256, 0);
        home(Check.BYTES, 133, -1);
        home(Check.BYTES, 255, -1);
        home(Check.SHORTS, 0x1_0007, 7);
        home(Check.SHORTS, 0x8005, -1);
        home(Check.SHORTS, 256, -1);
        home(Check.INTS, 0x1_0007, -1);
        home(Check.INTS, 0x100, -1);
        home(Check.INTS, 99, 99);
    }

    private static void home(int sort, int v, int home) {
        RubbleCity x = new RubbleCity();
        Check.writeSort(x, 0, sort, v, 1, 1, 1);
        Check.due("came", x.people(0, sort, 0, 1), home < 0 ? 0 : 1);
        Check.due("home of " + v, x.personTold(0, 0), home);
    }

    private static void copy() {
        RubbleCity x = new RubbleCity();
        Check.due("sheet -1", x.copy(-1, 0, 0, 0, 0), BAD);
        Check.due("sheet 4", x.copy(0, 0, 4, 0, 0), BAD);
        Check.due("both missing", x.copy(0, 0, 0, 0, -1), NOTHING);
        Check.write(x, 0, 10, 11, 12, 13, 14, 15);
        Check.due("to a missing one", x.copy(0, 0, 1, 0, -1), NOTHING);
        Check.due("from a missing one", x.copy(1, 0, 0, 0, -1), NOTHING);
        Check.writeSort(x, 1, Check.SHORTS, 0, 0, 0);
        Check.due("unlike", x.copy(0, 0, 1, 0, -1), OTHER);
        Check.write(x, 1, 20, 21, 22, 23);
        Check.due("n -1", x.copy(0, 0, 1, 0, -1), OUTSIDE);
        Check.due("i -1", x.copy(0, -1, 1, 0, 1), OUTSIDE);
        Check.due("j -1", x.copy(0, 0, 1, -1, 1), OUTSIDE);
        Check.due("beyond i", x.copy(0, 3, 1, 0, 4), OUTSIDE);
        Check.due("beyond j", x.copy(0, 0, 1, 2, 3), OUTSIDE);
        Check.due("n too great", x.copy(0, 0, 1, 0, 5), OUTSIDE);
        Check.due("most", x.copy(0, MOST, 1, MOST, MOST), OUTSIDE);
        Check.due("most", x.copy(0, 1, 1, 1, MOST), OUTSIDE);
        Check.due("least", x.copy(0, 0, 1, 0, LEAST), OUTSIDE);
        Check.due("none beyond", x.copy(0, 7, 1, 0, 0), OUTSIDE);
        Check.due("none at the end", x.copy(0, 6, 1, 4, 0), 0);
        told(x, 1, 20, 21, 22, 23);
        Check.due("copy", x.copy(0, 2, 1, 1, 3), 3);
        told(x, 1, 20, 12, 13, 14);
        told(x, 0, 10, 11, 12, 13);
        Check.due("all", x.copy(1, 0, 0, 2, 4), 4);
        told(x, 0, 10, 11, 20, 12);
        // Within one sheet, as they were.
        Check.write(x, 2, 30, 31, 32, 33, 34, 35, 36, 37);
        Check.due("up", x.copy(2, 0, 2, 1, 7), 7);
        told(x, 2, 30, 30, 31, 32);
        Check.due("down", x.copy(2, 2, 2, 0, 6), 6);
        told(x, 2, 31, 32, 33, 34);
        Check.writeSort(x, 0, Check.BYTES, 1, 2, 3);
        Check.writeSort(x, 1, Check.BYTES, 9, 9, 9);
        Check.due("bytes", x.copy(0, 0, 1, 0, 3), 3);
    }

    /** The first numbers of a sheet of ints, told by the homes of people who come by them. */
    private static void told(RubbleCity x, int s, int... numbers) {
        for (int i = 0; i < numbers.length; i++) {
            Check.write(x, 3, -1, 1, 1, 1);
            Check.due("copy", x.copy(s, i, 3, 0, 1), 1);
            int p = x.count(7);
            Check.due("came", x.people(3, 2, 0, 1), 1);
            Check.due("number " + i, x.personTold(p, 0), numbers[i]);
        }
    }

    private static void people() {
        RubbleCity x = new RubbleCity();
        Check.due("sheet -1", x.people(-1, 0, 0, 0), BAD);
        Check.due("sheet 4", x.people(4, 0, 0, 0), BAD);
        Check.due("sort -1", x.people(0, -1, 0, 0), BAD);
        Check.due("sort 3", x.people(0, 3, 0, 0), BAD);
        Check.due("n -1", x.people(0, 0, 0, -1), BAD);
        Check.due("n 11", x.people(0, 0, 0, 11), BAD);
        Check.due("missing", x.people(0, 0, -1, 1), NOTHING);
        Check.writeSort(x, 0, Check.BYTES, 77, 7, 9, 30, 3, 100, 1, 1, 1, 8, 2, 20, 4);
        Check.due("another sort", x.people(0, 1, -1, 1), OTHER);
        Check.due("another sort", x.people(0, 2, 0, 0), OTHER);
        Check.due("from 1, three", x.people(0, 0, 1, 3), 2);
        Check.due("people", x.count(7), 2);
        Check.due("home", x.personTold(0, 0), 7);
        Check.due("passes", x.personTold(0, 5), 72);
        Check.due("home", x.personTold(1, 0), 8);
        Check.due("passes", x.personTold(1, 5), 16);
        Check.rule(x, "work 1 if age=30&kin=3;work 2 if age=20&kin=4;");
        Check.due("age, kin", x.says(0, 0), 1);
        Check.due("age, kin", x.says(1, 0), 2);
        Check.due("none", x.people(0, 0, 0, 0), 0);
        Check.due("none, at a place outside", x.people(0, 0, 99, 0), 0);
        // Ten of them; at 24 the others are left out.
        x.sheet(1, 1, 40);
        for (int i = 0; i < 40; i++) {
            x.cell(1, i, 1);
        }
        Check.due("ten", x.people(1, 1, 0, 10), 10);
        Check.due("ten", x.people(1, 1, 0, 10), 10);
        Check.due("two", x.people(1, 1, 0, 10), 2);
        Check.due("full", x.people(1, 1, 0, 10), 0);
        Check.due("people", x.count(7), 24);
    }

    private static void peopleAhead() {
        RubbleCity x = new RubbleCity();
        Check.write(x, 0, 1, 1, 1, 1, 2, 2, 2, 2, 3, 3, 3);
        Check.due("the third stands outside", x.people(0, 2, 0, 3), OUTSIDE);
        Check.due("two came", x.count(7), 2);
        Check.due("from -1", x.people(0, 2, -1, 1), OUTSIDE);
        Check.due("from -4", x.people(0, 2, -4, 2), OUTSIDE);
        Check.due("from 8", x.people(0, 2, 8, 1), OUTSIDE);
        Check.due("from 11", x.people(0, 2, 11, 1), OUTSIDE);
        Check.due("from most", x.people(0, 2, MOST, 1), OUTSIDE);
        Check.due("from most", x.people(0, 2, MOST - 3, 2), OUTSIDE);
        Check.due("from least", x.people(0, 2, LEAST, 1), OUTSIDE);
        Check.due("two", x.count(7), 2);
        Check.due("from 7", x.people(0, 2, 7, 1), 1);
        Check.due("home", x.personTold(2, 0), 2);
    }

    private static void taken() {
        RubbleCity x = new RubbleCity();
        Check.due("kind -1, cell -1", x.taken(-1, -1), BAD);
        Check.due("kind 6", x.taken(100, 6), BAD);
        Check.due("cell -1", x.taken(-1, 0), OUTSIDE);
        Check.due("cell 100", x.taken(100, 0), OUTSIDE);
        Check.due("nothing", x.taken(0, 0), NOTHING);
        int[] bricks = {20, 35, 20, 70, 10, 5};
        int[][] is = {{0}, {0, 1}, {0, 2}, {0, 1, 3}, {0, 2, 4}, {0, 1, 5}};
        for (int kind = 0; kind < 6; kind++) {
            x.ruin(kind, kind, 0);
            boolean[] any = new boolean[6];
            for (int above : is[kind]) {
                any[above] = true;
            }
            for (int wanted = 0; wanted < 6; wanted++) {
                Check.due(kind + " for " + wanted, x.taken(kind, wanted), any[wanted] ? bricks[kind] : OTHER);
            }
        }
        x.tip(9);
        Check.due("the tip", x.taken(9, 0), OTHER);
        x.tip(3);
        Check.due("a ruin ahead of the tip", x.taken(3, 1), 70);
        Check.due("no tip any more", x.taken(9, 0), NOTHING);
    }
}
