/** Promises 16 to 22: what is told of cells, kinds, people, rows, rails, walls; counts. */
public final class LookingTest {
    private static final int NONE = -1, BAD = -2;

    public static void main(String[] args) {
        cellTold();
        kindTold();
        personTold();
        rowTold();
        railTold();
        wallTold();
        count();
        Check.end();
    }

    private static void cellTold() {
        RubbleCity x = new RubbleCity();
        Check.due("cell -1, what 3", x.cellTold(-1, 3), NONE);
        Check.due("cell 100", x.cellTold(100, 0), NONE);
        Check.due("what -1", x.cellTold(0, -1), BAD);
        Check.due("what 3", x.cellTold(0, 3), BAD);
        int[] weak = {3, 3, 2, 7, 2, 6};
        for (int kind = 0; kind < 6; kind++) {
            x.ruin(90 + kind, kind, kind);
            Check.due("loads", x.cellTold(90 + kind, 0), kind);
            Check.due("kind", x.cellTold(90 + kind, 1), kind);
            Check.due("weak", x.cellTold(90 + kind, 2), weak[kind]);
        }
    }

    private static void kindTold() {
        RubbleCity x = new RubbleCity();
        int[][] kinds = {{20, 1, 0, 3}, {35, 4, 0, 3}, {20, 1, 5, 2}, {70, 4, 0, 7}, {10, 7, 5, 2}, {5, 4, 0, 6}};
        for (int kind = 0; kind < 6; kind++) {
            for (int what = 0; what < 4; what++) {
                Check.due("kind " + kind + " " + what, x.kindTold(kind, what), kinds[kind][what]);
            }
            Check.due("kind what -1", x.kindTold(kind, -1), BAD);
            Check.due("kind what 4", x.kindTold(kind, 4), BAD);
        }
        Check.due("kind -1", x.kindTold(-1, 0), BAD);
        Check.due("kind 6", x.kindTold(6, 0), BAD);
        for (int kind = 0; kind < 6; kind++) {
            yields(kind, kinds[kind]);
        }
    }

    private static void yields(int kind, int[] yield) {
        RubbleCity x = new RubbleCity();
        x.ruin(0, kind, 39);
        x.person(0, 9, 1, 1);
        Check.row(x, 0, 0, 1, 0);
        x.run(1);
        for (int what = 0; what < 3; what++) {
            Check.due("three tens of kind " + kind, x.count(4 + what), 3 * yield[what]);
        }
    }

    private static void personTold() {
        RubbleCity x = new RubbleCity();
        x.person(7, 5, 30, 1);
        Check.due("nobody, what 7", x.personTold(1, 7), NONE);
        Check.due("person -1", x.personTold(-1, 0), NONE);
        Check.due("what -1", x.personTold(0, -1), BAD);
        Check.due("what 7", x.personTold(0, 7), BAD);
        Check.due("passes without a row", x.personTold(0, 5), 40);
        Check.due("at home without a row", x.personTold(0, 6), 7);
        Check.row(x, 2, 44, 45, 0);
        Check.due("at work", x.personTold(0, 6), 44);
        Check.rule(x, "work 8;stay 1;");
        Check.due("passes when it stays", x.personTold(0, 5), 0);
        Check.due("at home when it stays", x.personTold(0, 6), 7);
        Check.rule(x, "work 0;");
        Check.due("at home without work", x.personTold(0, 6), 7);
        x.person(7, 1, 30, 1);
        Check.row(x, 2, 44, 45, 0, 1);
        Check.rule(x, "work 1;");
        Check.due("passes one", x.personTold(1, 5), 1);
        Check.due("at work for one", x.personTold(1, 6), 44);
        x.force(-1);
        x.moves(1, 0);
        x.pull(x.wall(43, 1, 9));
        Check.due("hurt", x.personTold(0, 1), 3);
        Check.due("passes less", x.personTold(0, 5), 16);
        x.pull(x.wall(43, 1, 9));
        Check.due("passes 0 at least", x.personTold(0, 5), 0);
        Check.due("at home", x.personTold(0, 6), 7);
        x.pull(x.wall(8, 3, 9));
        Check.due("hurt", x.personTold(0, 1), 9);
        Check.due("dead", x.personTold(0, 4), 1);
        Check.due("home", x.personTold(0, 0), 7);
        Check.due("by day", x.personTold(0, 6), 7);
    }

    private static void rowTold() {
        RubbleCity x = new RubbleCity();
        Check.due("row -1, what 3", x.rowTold(-1, 3), -5);
        Check.due("row 4", x.rowTold(4, 0), -5);
        Check.due("what -1", x.rowTold(0, -1), BAD);
        Check.due("what 3", x.rowTold(3, 3), BAD);
        Check.due("no hands", x.rowTold(0, 2), -1);
        x.person(0, 5, 1, 1);
        x.person(0, 4, 1, 1);
        x.ruin(0, 0, 100);
        Check.row(x, 0, 0, 1, 0, 1);
        Check.due("hands", x.rowTold(0, 0), 2);
        Check.due("loads at first", x.rowTold(0, 1), 0);
        Check.due("stuck at first", x.rowTold(0, 2), 0);
        x.run(1);
        Check.due("loads", x.rowTold(0, 1), 32);
        Check.due("stuck", x.rowTold(0, 2), 1);
        Check.row(x, 0, 0, 1, 0);
        Check.due("loads on the latest day", x.rowTold(0, 1), 32);
        Check.due("stuck on the latest day", x.rowTold(0, 2), 1);
        Check.row(x, 0, 0, 1);
        Check.due("loads then", x.rowTold(0, 1), 32);
        Check.due("no hands now", x.rowTold(0, 2), -1);
        Check.row(x, 0, 0, 1, 0);
        Check.due("stuck then", x.rowTold(0, 2), 1);
        Check.row(x, 0, 0, 1);
        x.run(1);
        Check.row(x, 0, 0, 1, 0);
        Check.due("no loads then", x.rowTold(0, 1), 0);
        Check.due("had no hands then", x.rowTold(0, 2), -1);
    }

    private static void railTold() {
        RubbleCity x = new RubbleCity();
        Check.due("rail -1, what 2", x.railTold(-1, 2), NONE);
        Check.due("rail 3", x.railTold(3, 0), NONE);
        Check.due("what -1", x.railTold(0, -1), BAD);
        Check.due("what 2", x.railTold(2, 2), BAD);
        Check.due("no way", x.railTold(2, 0), 0);
        Check.due("no loads", x.railTold(2, 1), 0);
        x.ruin(0, 0, 100);
        Check.rail(x, 2, 1, 0, 1, 2);
        Check.due("cells", x.railTold(2, 0), 3);
        Check.due("loads ahead of the day", x.railTold(2, 1), 0);
        x.run(1);
        Check.due("loads", x.railTold(2, 1), 30);
        Check.rail(x, 2, 1);
        Check.due("cells", x.railTold(2, 0), 0);
        Check.due("loads on the latest day", x.railTold(2, 1), 30);
    }

    private static void wallTold() {
        RubbleCity x = new RubbleCity();
        x.wall(0, 1, 33);
        Check.due("wall -1, what 3", x.wallTold(-1, 3), NONE);
        Check.due("wall 1", x.wallTold(1, 0), NONE);
        Check.due("what -1", x.wallTold(0, -1), BAD);
        Check.due("what 3", x.wallTold(0, 3), BAD);
        Check.due("stands", x.wallTold(0, 0), 1);
        x.pull(0);
        Check.due("down", x.wallTold(0, 0), 0);
        Check.due("stands", x.wallTold(0, 1), 33);
        Check.due("falls to", x.wallTold(0, 2), 1);
    }

    private static void count() {
        RubbleCity x = new RubbleCity();
        Check.due("count -1", x.count(-1), BAD);
        Check.due("count 14", x.count(14), BAD);
        x.ruin(0, 4, 70);
        x.ruin(9, 4, 7);
        x.tip(1);
        for (int p = 0; p < 5; p++) {
            x.person(p == 4 ? 99 : 0, 9, 1, 1);
        }
        Check.row(x, 0, 0, 1, 0, 1, 2);
        Check.rule(x, "work 7 if day<1;card 1;");
        Check.order(x, "work 1;");
        Check.order(x, "work 1;");
        x.room(0, 0, 0, 1);
        x.room(0, 0, 0, 1);
        x.wall(98, 1, 1);
        x.wall(98, 1, 1);
        x.wall(98, 1, 1);
        x.wall(98, 1, 99);
        x.run(1);
        Check.feed(x, "stay ");
        x.pull(0);
        x.pull(1);
        x.pull(2);
        // 63 of 70 left: 6 tens, 24 dust.
        int[] due = {1, 7 + 7 + 60, 39, 24, 60, 42, 30, 5, 1, 3, 0, 5, 2, 4};
        for (int what = 0; what < due.length; what++) {
            Check.due("count " + what, x.count(what), due[what]);
        }
    }
}
