/** Promises 38 to 41: days played beside, images. */
public final class AheadTest {
    private static final int NONE = -1, BAD = -2, STATE = -3;

    public static void main(String[] args) {
        beside();
        besideAsRun();
        clear();
        atTheLastDay();
        imageAndBack();
        whatAnImageLeaves();
        whatCameSince();
        Check.end();
    }

    /** Rows, a rail, a tip, walls that fall on people by and by (three at once on day 23), a rule. */
    private static RubbleCity busy() {
        RubbleCity x = new RubbleCity();
        x.ruin(44, 3, 500);
        x.ruin(45, 4, 90);
        x.person(44, 5, 30, 1);
        x.person(44, 6, 20, 1);
        x.person(50, 9, 40, 2);
        x.person(46, 2, 70, 2);
        x.wall(44, 1, 20);
        x.wall(54, 2, 9);
        x.wall(45, 1, 30);
        x.wall(45, 1, 30);
        x.wall(47, 3, 54);
        x.tip(34);
        Check.row(x, 0, 44, 34, 0, 1);
        Check.row(x, 1, 45, 44, 2);
        Check.rail(x, 0, 1, 46, 45);
        x.weather(9, 2);
        Check.rule(x, "work 9 if worked<40;work 3;card 2 if hurt>0;card 1;");
        return x;
    }

    private static void beside() {
        RubbleCity x = new RubbleCity();
        Check.due("n 0", x.beside(0, 0), RubbleCity.NO);
        Check.due("n 61", x.beside(61, 0), RubbleCity.NO);
        Check.due("what -1", x.beside(1, -1), RubbleCity.NO);
        Check.due("what 4", x.beside(1, 4), RubbleCity.NO);
        x.ruin(44, 3, 50);
        x.person(44, 5, 30, 1);
        x.person(46, 2, 30, 1);
        Check.row(x, 0, 44, 45, 0);
        for (int i = 0; i < 3; i++) {
            x.wall(45, 1, 3);
        }
        x.wall(43, 1, 3);
        x.run(1);
        x.weather(0, 1);
        Check.due("loads", x.beside(1, 0), 10 - 4 + 24 + 80);
        Check.due("bricks more", x.beside(1, 1), 70);
        Check.due("die", x.beside(1, 2), 1);
        Check.due("hurt of all", x.beside(1, 3), 12);
        Check.due("hurt of all in 6 days", x.beside(6, 3), 11);
        Check.due("day", x.count(0), 1);
        Check.due("bricks", x.count(4), 280);
        x.run(1);
        // The wall's 20 loads lie there, and the hand, hurt, passes 16.
        Check.due("bricks more", x.beside(1, 1), 70);
        Check.due("nobody more dies", x.beside(1, 2), 0);
        Check.due("hurt of all", x.beside(60, 3), 9);
    }

    private static void besideAsRun() {
        for (int n = 1; n <= 60; n++) {
            RubbleCity x = busy();
            x.run(1 + n % 5);
            String before = Check.all(x);
            long[] told = new long[4];
            for (int what = 0; what < 4; what++) {
                told[what] = x.beside(n, what);
            }
            Check.due("nothing changes beside", Check.all(x).equals(before) ? 1 : 0, 1);
            int bricks = x.count(4);
            int dead = x.count(8);
            x.run(n);
            int hurt = 0;
            for (int p = 0; p < x.count(7); p++) {
                hurt += x.personTold(p, 1);
            }
            Check.due("loads in " + n, told[0], x.count(1));
            Check.due("bricks in " + n, told[1], x.count(4) - bricks);
            Check.due("dead in " + n, told[2], x.count(8) - dead);
            Check.due("hurt in " + n, told[3], hurt);
        }
    }

    private static void clear() {
        RubbleCity x = new RubbleCity();
        Check.due("cell -1, n 0", x.clear(-1, 0), NONE);
        Check.due("cell 100", x.clear(100, 1), NONE);
        Check.due("n 0", x.clear(0, 0), BAD);
        Check.due("n 61", x.clear(0, 61), BAD);
        Check.due("has none now", x.clear(0, 1), 0);
        x.ruin(0, 0, 81);
        x.person(50, 5, 1, 1);
        Check.row(x, 0, 0, 1, 0);
        Check.due("three days", x.clear(0, 60), 3);
        Check.due("three days", x.clear(0, 3), 3);
        Check.due("not in two", x.clear(0, 2), STATE);
        Check.due("none there yet", x.clear(1, 60), 0);
        x.ruin(9, 0, 1);
        Check.due("never", x.clear(9, 60), STATE);
        Check.due("nothing changes", x.cellTold(0, 0), 81);
        Check.due("day", x.count(0), 0);
        // The first time counts, though loads come again.
        Check.row(x, 0, 0, 10, 0);
        x.wall(1, 3, 50);
        x.weather(9, 6);
        x.ruin(0, 0, 41);
        Check.due("first", x.clear(0, 60), 2);
        RubbleCity y = busy();
        int days = y.clear(45, 60);
        String before = Check.all(y);
        y.clear(44, 60);
        Check.due("nothing changes beside", Check.all(y).equals(before) ? 1 : 0, 1);
        for (int d = 0; d < days; d++) {
            Check.due("not yet", y.cellTold(45, 0) > 0 ? 1 : 0, 1);
            y.run(1);
        }
        Check.due("clear", y.cellTold(45, 0), 0);
    }

    private static void atTheLastDay() {
        RubbleCity x = new RubbleCity();
        Check.days(x, 1990);
        Check.due("to day 2000", x.beside(10, 0), 0);
        Check.due("beyond", x.beside(11, 0), RubbleCity.NO);
        x.run(10);
        Check.due("beyond", x.beside(1, 0), RubbleCity.NO);
        Check.due("clear now", x.clear(0, 1), 0);
        // The document names no refusal here: the day is played beside all the same.
        x.ruin(0, 0, 50);
        x.person(0, 9, 1, 1);
        Check.row(x, 0, 0, 1, 0);
        Check.due("clear", x.clear(0, 5), 1);
    }

    private static void imageAndBack() {
        RubbleCity x = busy();
        Check.due("no image", x.back(), STATE);
        x.room(0, 70, 1, 5);
        x.run(3);
        Check.due("image", x.image(), 3);
        String then = Check.all(x);
        x.mend(0);
        x.moves(3, 0);
        x.ruin(44, 3, 9);
        x.weather(9, 9);
        x.pull(3);
        Check.due("run", x.run(20), 23);
        Check.due("something changed", Check.all(x).equals(then) ? 1 : 0, 0);
        Check.due("back", x.back(), 3);
        Check.due("as it was", Check.all(x).equals(then) ? 1 : 0, 1);
        Check.due("weather as it was", x.weather(9, 2), 92);
        x.run(9);
        Check.due("back again", x.back(), 3);
        Check.due("as it was", Check.all(x).equals(then) ? 1 : 0, 1);
        railAndDeath();
        // What comes behind an image is as without it.
        RubbleCity y = busy();
        y.room(0, 70, 1, 5);
        y.run(30);
        x.run(27);
        Check.due("the same days", Check.all(x).equals(Check.all(y)) ? 1 : 0, 1);
        Check.due("a later image", x.image(), 30);
        x.run(1);
        Check.due("back to the later one", x.back(), 30);
        // Each part of it, one by one.
        RubbleCity z = busy();
        z.ruin(46, 2, 100);
        z.image();
        z.run(30);
        Check.due("one died", z.count(8) > 0 ? 1 : 0, 1);
        int[] counts = {0, 690, 0, 0, 0, 0, 0, 4, 0};
        z.back();
        for (int what = 0; what < counts.length; what++) {
            Check.due("count " + what, z.count(what), counts[what]);
        }
        int[] homes = {44, 44, 50, 46};
        for (int p = 0; p < 4; p++) {
            Check.due("home", z.personTold(p, 0), homes[p]);
            for (int what = 1; what < 5; what++) {
                Check.due("person told " + what, z.personTold(p, what), 0);
            }
        }
        int[] stands = {20, 9, 30, 30, 54};
        for (int k = 0; k < 5; k++) {
            Check.due("stands", z.wallTold(k, 0), 1);
            Check.due("stands", z.wallTold(k, 1), stands[k]);
        }
        Check.due("what row 0 did", z.rowTold(0, 1), 0);
        Check.due("where row 0 stuck", z.rowTold(0, 2), 0);
        Check.due("where row 1 stuck", z.rowTold(1, 2), 0);
        Check.due("what rail 0 did", z.railTold(0, 1), 0);
    }

    private static void railAndDeath() {
        RubbleCity x = new RubbleCity();
        x.ruin(44, 2, 100);
        x.person(9, 5, 30, 1);
        Check.rail(x, 0, 1, 44, 45);
        x.image();
        x.run(1);
        for (int i = 0; i < 3; i++) {
            x.pull(x.wall(8, 1, 9));
        }
        Check.due("rail", x.railTold(0, 1), 60);
        Check.due("dead", x.personTold(0, 4), 1);
        x.back();
        Check.due("rail as it was", x.railTold(0, 1), 0);
        Check.due("not dead", x.personTold(0, 4), 0);
        Check.due("not hurt", x.personTold(0, 1), 0);
        x.run(1);
        x.image();
        for (int i = 0; i < 3; i++) {
            x.pull(x.wall(8, 1, 9));
        }
        x.image();
        x.run(1);
        Check.due("rail", x.railTold(0, 1), 40);
        x.back();
        Check.due("rail as it was", x.railTold(0, 1), 60);
        Check.due("dead as it was", x.personTold(0, 4), 1);
    }

    private static void whatAnImageLeaves() {
        RubbleCity x = new RubbleCity();
        x.person(5, 3, 30, 1);
        x.wall(44, 0, 50);
        x.image();
        x.ruin(9, 4, 33);
        x.tip(7);
        Check.row(x, 0, 1, 2, 0);
        Check.rail(x, 1, 2, 1, 2, 3);
        Check.rule(x, "work 3;");
        Check.feed(x, "wor");
        x.raid(0, 1, 5, 4);
        x.probe(1, 1);
        x.paper(0, 0, 0);
        x.paper(1, 0, 0);
        x.burn(1);
        x.room(3, 0, 0, 8);
        Check.pulls(x, 0);
        x.mends(1);
        Check.writeSort(x, 2, Check.BYTES, 1, 2, 3);
        x.back();
        Check.due("loads", x.cellTold(9, 0), 0);
        Check.due("ruin stays", x.cellTold(9, 1), 4);
        Check.due("tip stays", x.tip(7), 7);
        Check.due("hands stay", x.rowTold(0, 0), 1);
        Check.due("way stays", x.railTold(1, 0), 3);
        Check.due("rule stays", x.count(10), 0);
        Check.due("orders stay", x.count(9), 1);
        Check.due("tape stays", x.count(11), 3);
        Check.due("raid stays", x.likely(0, 0), 3);
        Check.due("probe stays", x.likely(0, 1), 4);
        Check.due("probe stays", x.probe(1, 0), STATE);
        Check.due("paper stays", x.owner(0, 0, 0), 0);
        Check.due("burnt stays", x.owner(1, 0, 0), NONE);
        Check.due("room stays", x.count(12), 1);
        Check.due("pulls stay", x.pullTold(0), 0);
        Check.due("mends stay", x.mendTold(), 1);
        Check.due("sheet stays", x.cell(2, 2, 0), 1);
    }

    private static void whatCameSince() {
        RubbleCity x = new RubbleCity();
        x.person(44, 5, 30, 1);
        x.wall(44, 0, 50);
        x.room(0, 0, 0, 5);
        x.image();
        x.run(1);
        x.person(44, 7, 30, 1);
        x.wall(43, 1, 50);
        x.wall(43, 1, 50);
        x.pull(1);
        x.room(3, 0, 0, 8);
        x.mend(1);
        x.run(2);
        Check.due("back", x.back(), 0);
        Check.due("people", x.count(7), 2);
        Check.due("home", x.personTold(1, 0), -1);
        for (int what = 1; what < 5; what++) {
            Check.due("person told " + what, x.personTold(1, what), 0);
        }
        Check.due("strong as told", x.personTold(1, 5), 56);
        Check.due("by day", x.personTold(1, 6), -1);
        Check.due("walls", x.count(13), 3);
        for (int k = 1; k < 3; k++) {
            Check.due("down", x.wallTold(k, 0), 0);
            Check.due("stands", x.wallTold(k, 1), 0);
            Check.due("falls to", x.wallTold(k, 2), 44);
            Check.due("pull", x.pull(k), STATE);
        }
        Check.due("rooms", x.count(12), 2);
        Check.due("not warm", x.roomTold(1, 1), 0);
        Check.due("its worth", x.roomTold(1, 2), 8);
        Check.due("the first one", x.personTold(0, 0), 44);
        Check.due("the first wall", x.wallTold(0, 1), 50);
        Check.due("moves", x.moves(1, 9), -1);
        Check.due("home", x.personTold(1, 0), 9);
        x.run(1);
        Check.due("given", x.personTold(1, 3), 1);
        x.person(50, 1, 1, 1);
        Check.due("the next person", x.personTold(2, 0), 50);
    }
}
