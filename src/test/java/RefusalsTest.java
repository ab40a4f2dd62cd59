import java.util.function.Supplier;

/**
 * REFUSALS, "of several the first one told" and "they change nothing": each call of the document with all
 * combinations of numbers at the bounds that the document names for it, on a city with some of everything, on one
 * where everything is full, and at the last days.
 */
public final class RefusalsTest {
    private static final int NONE = -1, BAD = -2, STATE = -3, FULL = -4, ABSENT = -5, TOO_FEW = -6;
    private static final int NOTHING = -11, OUTSIDE = -12, OTHER = -13, BELOW = -14;
    private static final int MOST = Ladder.MOST, LEAST = Ladder.LEAST;

    private static final int[] CELLS = Ladder.bounds(0, 99);
    private static final int[] SIDES = {0, 1, 2, 3, -1, 4, LEAST, MOST};
    /** Of some(): 0 and 1 in ROW 0, 2 in ROW 1, 4 dead, 6 nobody. */
    private static final int[] SOME_PEOPLE = {0, 2, 3, 4, 5, -1, 6, LEAST, MOST};
    /** Of some(): 0 two ints, 1 no shorts, 2 forty bytes, 3 missing. */
    private static final int[] SOME_SHEETS = {0, 1, 2, 3, -1, 4, LEAST, MOST};
    private static final int[] SIZES = {2, 0, 40, 0};
    private static final int[] SORTS = {2, 1, 0, -1};
    private static final Supplier<RubbleCity> SOME = RefusalsTest::some;
    private static final Supplier<RubbleCity> ALL = RefusalsTest::full;

    public static void main(String[] args) {
        cells();
        rows();
        rails();
        orders();
        days();
        looking();
        wallsAndRooms();
        shells();
        lots();
        ahead();
        sheets();
        people();
        taken();
        Check.end();
    }

    private static RubbleCity some() {
        RubbleCity x = new RubbleCity();
        x.ruin(44, 3, 500);
        x.ruin(0, 4, 9999);
        x.person(44, 5, 30, 1);
        x.person(44, 6, 20, 1);
        x.person(50, 9, 40, 2);
        x.person(99, 2, 70, 2);
        x.person(20, 1, 0, 1);
        x.person(70, 1, 0, 0);
        x.wall(44, 1, 99);
        x.wall(54, 2, 99);
        for (int i = 0; i < 3; i++) {
            x.pull(x.wall(21, 3, 50));
        }
        x.tip(34);
        Check.row(x, 0, 44, 34, 0, 1);
        Check.row(x, 1, 45, 44, 2);
        Check.rail(x, 0, 1, 46, 45);
        x.weather(3, 4);
        Check.order(x, "stay 1;");
        Check.rule(x, "work 9;card 2 if hurt>0;card 1;");
        Check.feed(x, "stay ");
        x.run(9);
        x.room(0, 0, 0, 5);
        x.mend(0);
        x.room(1, 70, 4, 9);
        x.room(2, 9999, 0, 9);
        x.room(3, 0, 999, 9);
        x.raid(40, 1, 10, 9);
        x.raid(44, 0, 3, 1);
        x.probe(40, 1);
        x.paper(0, 0, 0);
        x.paper(1, 1, 5);
        x.burn(1);
        x.paper(2, 4, 9);
        Check.pulls(x, 1, 0);
        x.mends(1);
        x.image();
        Check.write(x, 0, 3, 5);
        x.sheet(1, 1, 0);
        x.sheet(2, 0, 40);
        x.sheet(3, -1, 0);
        return x;
    }

    /** Some, and then as many of each as there may be. */
    private static RubbleCity full() {
        RubbleCity x = some();
        for (int i = 0; i < 24; i++) {
            x.person(9, 9, 9, 9);
            x.wall(9, 0, 9);
            x.room(9, 9, 9, 9);
            x.raid(9, 0, 9, 9);
            x.paper(9, 0, 9);
        }
        x.order();
        for (int i = 0; i < 4; i++) {
            Check.order(x, "work 9;");
        }
        for (int i = 0; i < 20; i++) {
            x.feed(0, 8);
        }
        int[] due = {24, 6, 160, 12, 16};
        int[] what = {7, 9, 11, 12, 13};
        for (int i = 0; i < due.length; i++) {
            Check.due("full " + what[i], x.count(what[i]), due[i]);
        }
        return x;
    }

    private static boolean isCell(int c) {
        return Ladder.in(c, 0, 99);
    }

    private static boolean isPerson(RubbleCity x, int p) {
        return Ladder.in(p, 0, x.count(7) - 1);
    }

    private static boolean isSheet(int s) {
        return Ladder.in(s, 0, 3);
    }

    private static boolean isInCity(int cell, int side) {
        int[] edge = {cell / 10 + 1, cell % 10 + 1, cell / 10 - 1, cell % 10 - 1};
        return Ladder.in(edge[side], 0, 9);
    }

    private static boolean areBeside(int a, int b) {
        return Math.abs(a % 10 - b % 10) + Math.abs(a / 10 - b / 10) == 1;
    }

    private static void cells() {
        Ladder.climb("ruin", SOME, (x, a) -> !isCell(a[0]) ? NONE
                : !Ladder.in(a[1], 0, 5) || !Ladder.in(a[2], 0, 9999) ? BAD : x.cellTold(a[0], 0),
                CELLS, Ladder.bounds(0, 5), Ladder.bounds(0, 9999));
        Ladder.Due person = (x, a) -> !isCell(a[0]) ? NONE
                : !Ladder.in(a[1], 1, 9) || !Ladder.in(a[2], 0, 99) || !Ladder.in(a[3], 0, 9) ? BAD
                : x.count(7) == 24 ? FULL : x.count(7);
        Ladder.climb("person", SOME, person, CELLS, Ladder.bounds(1, 9), Ladder.bounds(0, 99), Ladder.bounds(0, 9));
        Ladder.climb("person", ALL, person, CELLS, Ladder.bounds(1, 9), Ladder.bounds(0, 99), Ladder.bounds(0, 9));
        Ladder.climb("moves", SOME, (x, a) -> !isPerson(x, a[0]) || !isCell(a[1]) ? NONE
                : a[0] == 4 ? STATE : x.personTold(a[0], 0), SOME_PEOPLE, CELLS);
        Ladder.Due wall = (x, a) -> !isCell(a[0]) ? NONE
                : !Ladder.in(a[1], 0, 3) || !Ladder.in(a[2], 1, 99) ? BAD
                : !isInCity(a[0], a[1]) ? STATE : x.count(13) == 16 ? FULL : x.count(13);
        int[] corners = {0, 9, 44, 90, 99, -1, 100, LEAST, MOST};
        Ladder.climb("wall", SOME, wall, corners, SIDES, Ladder.bounds(1, 99));
        Ladder.climb("wall", ALL, wall, corners, SIDES, Ladder.bounds(1, 99));
        Ladder.climb("weather", SOME, (x, a) -> !Ladder.in(a[0], 0, 9) || !Ladder.in(a[1], 0, 9) ? BAD : 34,
                Ladder.bounds(0, 9), Ladder.bounds(0, 9));
        Ladder.climb("tip", SOME, (x, a) -> !Ladder.in(a[0], -1, 99) ? ABSENT : 34, Ladder.bounds(-1, 99));
        Ladder.climb("tip", RubbleCity::new, (x, a) -> !Ladder.in(a[0], -1, 99) ? ABSENT : -1, Ladder.bounds(-1, 99));
        Ladder.Due room = (x, a) -> !isCell(a[0]) ? NONE
                : !Ladder.in(a[1], 0, 9999) || !Ladder.in(a[2], 0, 999) || !Ladder.in(a[3], 1, 99) ? BAD
                : x.count(12) == 12 ? FULL : x.count(12);
        int[][] needs = {CELLS, Ladder.bounds(0, 9999), Ladder.bounds(0, 999), Ladder.bounds(1, 99)};
        Ladder.climb("room", SOME, room, needs);
        Ladder.climb("room", ALL, room, needs);
    }

    private static void rows() {
        Ladder.climb("row", SOME, (x, a) -> {
            if (!Ladder.in(a[0], 0, 3) || !isSheet(a[1]) || !isCell(a[2]) || !isCell(a[3])) {
                return NONE;
            }
            return a[1] == 3 ? NOTHING : a[1] == 2 || !areBeside(a[2], a[3]) ? BAD : SIZES[a[1]];
        }, Ladder.bounds(0, 3), SOME_SHEETS, new int[] {0, 44, 99, -1, 100}, new int[] {1, 45, 55, 89, 99, -1, 100});
        hands(0);
        hands(1, 3);
        hands(2, 5, 3);
        hands(BAD, -1);
        hands(BAD, 6);
        hands(BAD, MOST);
        hands(BAD, LEAST);
        hands(BAD, 4);
        hands(BAD, 3, 3);
        hands(BAD, 3, 5, 3);
        hands(STATE, 0);
        hands(STATE, 3, 2);
        // The first of its numbers that is refused tells how.
        hands(STATE, 3, 0, 6);
        hands(STATE, 3, 0, 4);
        hands(STATE, 1, 3, 3);
        hands(BAD, 3, 6, 0);
        hands(BAD, 3, 4, 0);
        hands(BAD, 3, 3, 0);
        // Its size comes ahead of them, and so do CELLS that aren't beside.
        hands(BAD, 0, 0, 0, 0, 0, 0, 0, 0, 0);
        RubbleCity x = some();
        Check.write(x, 0, 0);
        Ladder.refused(x, "row", BAD, 2, 0, 44, 44);
        Ladder.refused(x, "row", BAD, 2, 0, 44, 55);
        Ladder.refused(x, "row", STATE, 2, 0, 44, 45);
        x.moves(0, 20);
        Check.due("a hand of the same row", x.row(0, 0, 44, 45), 1);
        // Eight and nine hands who are all free.
        RubbleCity y = full();
        Check.write(y, 0, 10, 11, 12, 13, 14, 15, 16, 17, 18);
        Ladder.refused(y, "row", BAD, 2, 0, 44, 45);
        Check.write(y, 0, 10, 11, 12, 13, 14, 15, 16, 17);
        Check.due("eight hands", y.row(2, 0, 44, 45), 8);
        Check.due("eight hands", y.rowTold(2, 0), 8);
    }

    private static void hands(long want, int... hands) {
        RubbleCity x = some();
        Check.write(x, 0, hands);
        if (want < 0) {
            Ladder.refused(x, "row", want, 2, 0, 44, 45);
        } else {
            Check.due("row", x.row(2, 0, 44, 45), want);
            Check.due("hands", x.rowTold(2, 0), want);
        }
    }

    private static void rails() {
        Supplier<RubbleCity> way = () -> {
            RubbleCity x = some();
            Check.write(x, 0, 44, 45);
            return x;
        };
        Ladder.climb("rail", way, (x, a) -> !Ladder.in(a[0], 0, 2) || !isSheet(a[1]) ? NONE
                : a[1] == 3 ? NOTHING : a[1] == 2 || !Ladder.in(a[2], 0, 20) ? BAD : SIZES[a[1]],
                Ladder.bounds(0, 2), SOME_SHEETS, Ladder.bounds(0, 20));
        // A way that goes to and fro along the lines, of every size that a SHEET can have.
        for (int n = 0; n <= 40; n++) {
            RubbleCity x = some();
            x.sheet(0, 1, n);
            for (int i = 0; i < n; i++) {
                x.cell(0, i, i / 10 % 2 == 0 ? i : 10 * (i / 10) + 9 - i % 10);
            }
            if (n == 1 || n > 12) {
                Ladder.refused(x, "rail", BAD, 0, 0, 5);
            } else {
                Check.due("a way of " + n, x.rail(0, 0, 5), n);
                Check.due("a way of " + n, x.railTold(0, 0), n);
            }
        }
        int[][] noWay = {{0, 0}, {0, 2}, {9, 10}, {0, 11}, {-1, 0}, {0, -1}, {99, 100}, {100, 99}, {0, 1, 1},
            {0, 1, 3}, {5, MOST}, {LEAST, 5}, {-10, 0}};
        for (int[] cells : noWay) {
            RubbleCity x = some();
            Check.write(x, 0, cells);
            Ladder.refused(x, "rail", BAD, 0, 0, 5);
        }
    }

    private static void orders() {
        int[] bytes = {0, -1, MOST};
        Ladder.Due feed = (x, a) -> !Ladder.in(a[1], 1, 8) ? BAD
                : x.count(11) + a[1] > 160 ? FULL : x.count(11) + a[1];
        Ladder.climb("feed", SOME, feed, bytes, Ladder.bounds(1, 8));
        Ladder.climb("feed", ALL, feed, bytes, Ladder.bounds(1, 8));
        for (int left = 1; left <= 9; left++) {
            int size = 160 - left;
            int[] numbers = {1, 2, 3, 4, 5, 6, 7, 8, 0, 9, LEAST, MOST};
            Ladder.climb("feed", () -> tapeOf(size), feed, bytes, numbers);
        }
        Ladder.refused(full(), "order", FULL);
        RubbleCity x = full();
        Check.due("the tape stays", x.count(11), 160);
        Ladder.climb("force", SOME, (y, a) -> !Ladder.in(a[0], -1, 1) ? ABSENT : 1, Ladder.bounds(-1, 1));
        Ladder.climb("force", ALL, (y, a) -> !Ladder.in(a[0], -1, 5) ? ABSENT : 1, Ladder.bounds(-1, 5));
        Ladder.climb("force", RubbleCity::new, (y, a) -> a[0] != -1 ? ABSENT : -1, Ladder.bounds(-1, 0));
    }

    private static RubbleCity tapeOf(int size) {
        RubbleCity x = new RubbleCity();
        for (int i = 0; i + 8 <= size; i += 8) {
            x.feed(0, 8);
        }
        for (int i = x.count(11); i < size; i++) {
            x.feed(0, 1);
        }
        Check.due("the tape", x.count(11), size);
        return x;
    }

    private static void days() {
        int[] before = {0, 1939, 1940, 1941, 1999, 2000};
        for (int day : before) {
            Supplier<RubbleCity> city = () -> onDay(day);
            Ladder.climb("run", city, (x, a) -> !Ladder.in(a[0], 1, 60) ? BAD : day + a[0] > 2000 ? FULL : day + a[0],
                    new int[] {1, 2, 59, 60, 0, 61, -1, LEAST, MOST});
            Ladder.Due beside = (x, a) -> !Ladder.in(a[0], 1, 60) || !Ladder.in(a[1], 0, 3) || day + a[0] > 2000
                    ? RubbleCity.NO : 0;
            Ladder.climb("beside", city, beside, new int[] {1, 2, 59, 60, 0, 61, -1, LEAST, MOST}, Ladder.bounds(0, 3));
        }
    }

    private static RubbleCity onDay(int day) {
        RubbleCity x = new RubbleCity();
        Check.days(x, day);
        Check.due("day", x.count(0), day);
        return x;
    }

    private static void looking() {
        for (Supplier<RubbleCity> city : java.util.List.of(SOME, ALL)) {
            Ladder.look("says", city, (x, a) -> !isPerson(x, a[0]) ? NONE : !Ladder.in(a[1], 0, 2) ? BAD
                    : a[1] == 0 ? 9 : a[1] == 1 ? (x.personTold(a[0], 1) > 0 ? 2 : 1) : 0,
                    new int[] {0, 4, 5, 6, 23, 24, -1, LEAST, MOST}, Ladder.bounds(0, 2));
            Ladder.look("cellTold", city, (x, a) -> !isCell(a[0]) ? NONE : !Ladder.in(a[1], 0, 2) ? BAD : 0,
                    CELLS, Ladder.bounds(0, 2));
            Ladder.look("kindTold", city, (x, a) -> !Ladder.in(a[0], 0, 5) || !Ladder.in(a[1], 0, 3) ? BAD : 0,
                    Ladder.bounds(0, 5), Ladder.bounds(0, 3));
            Ladder.look("personTold", city, (x, a) -> !isPerson(x, a[0]) ? NONE : !Ladder.in(a[1], 0, 6) ? BAD : 0,
                    new int[] {0, 4, 5, 6, 23, 24, -1, LEAST, MOST}, Ladder.bounds(0, 6));
            Ladder.look("rowTold", city, (x, a) -> !Ladder.in(a[0], 0, 3) ? ABSENT : !Ladder.in(a[1], 0, 2) ? BAD : 0,
                    Ladder.bounds(0, 3), Ladder.bounds(0, 2));
            Ladder.look("railTold", city, (x, a) -> !Ladder.in(a[0], 0, 2) ? NONE : !Ladder.in(a[1], 0, 1) ? BAD : 0,
                    Ladder.bounds(0, 2), Ladder.bounds(0, 1));
            Ladder.look("wallTold", city, (x, a) -> !Ladder.in(a[0], 0, x.count(13) - 1) ? NONE
                    : !Ladder.in(a[1], 0, 2) ? BAD : 0,
                    new int[] {0, 4, 5, 15, 16, -1, LEAST, MOST}, Ladder.bounds(0, 2));
            Ladder.look("count", city, (x, a) -> !Ladder.in(a[0], 0, 13) ? BAD : 0, Ladder.bounds(0, 13));
            Ladder.look("pullTold", city, (x, a) -> !Ladder.in(a[0], 0, 1) ? NONE : 0, Ladder.bounds(0, 1));
            Ladder.look("mendTold", city, (x, a) -> 0);
            Ladder.look("roomTold", city, (x, a) -> !Ladder.in(a[0], 0, x.count(12) - 1) ? NONE
                    : !Ladder.in(a[1], 0, 2) ? BAD : 0,
                    new int[] {0, 3, 4, 11, 12, -1, LEAST, MOST}, Ladder.bounds(0, 2));
            Ladder.look("likely", city, (x, a) -> !isCell(a[0]) || !Ladder.in(a[1], 0, 1) ? RubbleCity.NO : 0,
                    CELLS, Ladder.bounds(0, 1));
            Ladder.look("next", city, (x, a) -> 0);
        }
        // Where there is none of a sort, its first number is outside as well.
        RubbleCity x = new RubbleCity();
        for (String name : new String[] {"says", "personTold", "wallTold", "roomTold"}) {
            Ladder.refused(x, name, NONE, 0, 0);
        }
        for (String name : new String[] {"pull", "mend", "burn", "pullTold"}) {
            Ladder.refused(x, name, NONE, 0);
        }
        Ladder.refused(x, "moves", NONE, 0, 0);
        Ladder.refused(x, "paper", NONE, 0, 0, 0);
        Ladder.refused(x, "next", NONE);
    }

    private static void wallsAndRooms() {
        Ladder.climb("pull", SOME, (x, a) -> !Ladder.in(a[0], 0, 4) ? NONE : a[0] > 1 ? STATE : a[0] == 0 ? 3 : 6,
                new int[] {0, 1, 2, 4, -1, 5, LEAST, MOST});
        Supplier<RubbleCity> walls = () -> {
            RubbleCity x = some();
            Check.write(x, 0, 1, 0);
            return x;
        };
        Ladder.climb("pulls", walls, (x, a) -> !isSheet(a[0]) ? NONE : a[0] == 3 ? NOTHING : a[0] > 0 ? BAD : 0,
                SOME_SHEETS);
        int[][] noPulls = {{}, {-1}, {5}, {0, 5}, {LEAST}, {MOST}, {2}, {0, 2}, {4, 0}, {0, 0}, {0, 1, 0}, {1, 0, 0}};
        for (int[] numbers : noPulls) {
            RubbleCity x = some();
            Check.write(x, 0, numbers);
            Ladder.refused(x, "pulls", BAD, 0);
        }
        // Walls 0 and 1 stand for long, the others there fall on the first day: one of these is in time.
        int[] up = {0, 1, 5, 6, 7, 8, 9, 10, 11, 12, 13, 14, 15};
        for (int n = 0; n <= up.length; n++) {
            RubbleCity x = full();
            Check.due("pulls", Check.pulls(x, 5), 0);
            Check.write(x, 0, java.util.Arrays.copyOf(up, n));
            if (n < 1 || n > 6) {
                Ladder.refused(x, "pulls", BAD, 0);
                Check.due("found last", x.pullTold(0), 5);
                Check.due("found last", x.pullTold(1), NONE);
            } else {
                Check.due("pulls of " + n, x.pulls(0), Math.max(0, n - 3));
                Check.due("the last one", x.pullTold(n - 1) >= 0 ? 1 : 0, 1);
                Check.due("behind the last one", x.pullTold(n), NONE);
            }
        }
        Ladder.climb("mends", SOME, (x, a) -> !Ladder.in(a[0], 0, 12) ? BAD : a[0] == 0 ? 0 : 9, Ladder.bounds(0, 12));
        Ladder.climb("mend", SOME, (x, a) -> !Ladder.in(a[0], 0, 3) ? NONE : a[0] == 0 ? STATE
                : a[0] > 1 ? TOO_FEW : x.count(4) - 70, new int[] {0, 1, 2, 3, -1, 4, LEAST, MOST});
    }

    private static void shells() {
        Ladder.Due raid = (x, a) -> !isCell(a[0]) ? NONE
                : !Ladder.in(a[1], 0, 3) || !Ladder.in(a[2], 1, 10) || !Ladder.in(a[3], 1, 9) ? BAD : 2;
        int[][] values = {CELLS, Ladder.bounds(0, 3), Ladder.bounds(1, 10), Ladder.bounds(1, 9)};
        Ladder.climb("raid", SOME, raid, values);
        Ladder.climb("raid", ALL, (x, a) -> raid.answer(x, a) == 2 ? FULL : raid.answer(x, a), values);
        // Raid 0, over 40 to 49, has 8 shells left, raid 1, over 44 to 64, has 1.
        Ladder.climb("probe", SOME, (x, a) -> {
            if (!isCell(a[0]) || !Ladder.in(a[1], 0, 9)) {
                return !isCell(a[0]) ? NONE : BAD;
            }
            int left = a[0] == 44 ? 9 : a[0] == 54 ? 1 : a[0] / 10 == 4 ? 8 : 0;
            return a[0] == 40 ? STATE : a[1] > left ? TOO_FEW : left - a[1];
        }, new int[] {0, 40, 41, 44, 49, 54, 99, -1, 100, LEAST, MOST}, new int[] {0, 1, 2, 8, 9, -1, 10, LEAST, MOST});
    }

    private static void lots() {
        Ladder.Due paper = (x, a) -> !Ladder.in(a[0], 0, 11) || !isPerson(x, a[1]) ? NONE
                : !Ladder.in(a[2], 0, 2000) ? BAD : 3;
        int[] owners = {0, 4, 5, 6, 23, 24, -1, LEAST, MOST};
        Ladder.climb("paper", SOME, paper, Ladder.bounds(0, 11), owners, Ladder.bounds(0, 2000));
        Ladder.climb("paper", ALL, (x, a) -> paper.answer(x, a) == 3 ? FULL : paper.answer(x, a),
                Ladder.bounds(0, 11), owners, Ladder.bounds(0, 2000));
        Ladder.climb("burn", SOME, (x, a) -> !Ladder.in(a[0], 0, 2) ? NONE : a[0] == 1 ? STATE : 1,
                new int[] {0, 1, 2, -1, 3, LEAST, MOST});
        // Lot 0 is person 0's from day 0, lot 2 the dead person 4's from day 9, both told on day 9.
        Ladder.Due owner = (x, a) -> !Ladder.in(a[0], 0, 11) ? ABSENT
                : !Ladder.in(a[1], 0, 2000) || !Ladder.in(a[2], 0, 9) ? BAD
                : a[2] == 9 && a[0] == 0 ? 0 : a[2] == 9 && a[0] == 2 && a[1] >= 9 ? 4 : NONE;
        int[] lots = {0, 1, 2, 11, -1, 12, LEAST, MOST};
        int[] on = {0, 8, 9, 10, 2000, -1, 2001, LEAST, MOST};
        int[] known = {0, 8, 9, -1, 10, LEAST, MOST};
        Ladder.look("owner", SOME, owner, lots, on, known);
        Ladder.climb("owner", SOME, owner, lots, on, known);
        Ladder.look("heirs", SOME, (x, a) -> Math.min(owner.answer(x, a), 0), lots, on, known);
        Ladder.climb("heirs", SOME, (x, a) -> {
            long p = owner.answer(x, a);
            return p == 0 ? 1 : p == 4 ? 3 : p;
        }, lots, on, known);
    }

    private static void ahead() {
        // 0 has 9999 loads that nobody takes away, 99 has none.
        Ladder.climb("clear", SOME, (x, a) -> !isCell(a[0]) ? NONE : !Ladder.in(a[1], 1, 60) ? BAD
                : a[0] == 0 ? STATE : 0, CELLS, Ladder.bounds(1, 60));
        Ladder.look("clear", SOME, (x, a) -> !isCell(a[0]) ? NONE : !Ladder.in(a[1], 1, 60) ? BAD
                : a[0] == 0 ? STATE : 0, CELLS, Ladder.bounds(1, 60));
        Ladder.look("beside", SOME, (x, a) -> !Ladder.in(a[0], 1, 60) || !Ladder.in(a[1], 0, 3) ? RubbleCity.NO : 0,
                Ladder.bounds(1, 60), Ladder.bounds(0, 3));
        Ladder.refused(new RubbleCity(), "back", STATE);
        Ladder.refused(withoutImage(), "back", STATE);
        Check.due("back", some().back(), 9);
    }

    private static RubbleCity withoutImage() {
        RubbleCity x = new RubbleCity();
        x.person(1, 2, 3, 4);
        x.ruin(5, 5, 5);
        x.run(5);
        return x;
    }

    private static void sheets() {
        Ladder.climb("sheet", SOME, (x, a) -> !isSheet(a[0]) ? BAD : a[1] == -1 ? 1
                : !Ladder.in(a[1], 0, 2) || a[2] > 40 ? BAD : a[2] < 0 ? BELOW : 1,
                Ladder.bounds(0, 3), new int[] {-1, 0, 1, 2, -2, 3, LEAST, MOST}, Ladder.bounds(0, 40));
        Ladder.climb("cell", SOME, (x, a) -> !isSheet(a[0]) ? BAD : a[0] == 3 ? NOTHING
                : !Ladder.in(a[1], 0, SIZES[a[0]] - 1) ? OUTSIDE : 1,
                SOME_SHEETS, new int[] {0, 1, 2, 39, 40, -1, LEAST, MOST}, new int[] {0, 1, -1, LEAST, MOST});
        int[] places = {0, 1, 2, 3, -1, LEAST, MOST};
        int[] sheets = {0, 1, 2, 3, -1, 4};
        Ladder.climb("copy", SOME, RefusalsTest::copied, sheets, places, sheets, places, places);
        // Two sheets of one sort, of unlike sizes.
        Supplier<RubbleCity> bytes = () -> {
            RubbleCity x = new RubbleCity();
            Check.writeSort(x, 0, Check.BYTES, 1, 2, 3, 4);
            Check.writeSort(x, 1, Check.BYTES, 5, 6, 7);
            return x;
        };
        int[] ends = {0, 1, 2, 3, 4, 5, -1, MOST, LEAST};
        Ladder.climb("copy", bytes, (x, a) -> {
            int from = a[0] == 0 ? 4 : 3;
            int to = a[2] == 0 ? 4 : 3;
            boolean within = a[4] >= 0 && a[1] >= 0 && a[3] >= 0
                    && (long) a[1] + a[4] <= from && (long) a[3] + a[4] <= to;
            return within ? a[4] : OUTSIDE;
        }, new int[] {0, 1}, ends, new int[] {0, 1}, ends, ends);
    }

    private static long copied(RubbleCity x, int[] a) {
        if (!isSheet(a[0]) || !isSheet(a[2])) {
            return BAD;
        }
        if (a[0] == 3 || a[2] == 3) {
            return NOTHING;
        }
        if (SORTS[a[0]] != SORTS[a[2]]) {
            return OTHER;
        }
        boolean within = a[4] >= 0 && a[1] >= 0 && a[3] >= 0
                && (long) a[1] + a[4] <= SIZES[a[0]] && (long) a[3] + a[4] <= SIZES[a[2]];
        return within ? a[4] : OUTSIDE;
    }

    private static void people() {
        // None of these has a strength, so that nobody comes in any case; what comes is told by HostTest.
        int[] from = {0, 1, 36, 37, 40, -1, LEAST, MOST};
        Ladder.climb("people", SOME, (x, a) -> {
            if (!isSheet(a[0]) || !Ladder.in(a[1], 0, 2) || !Ladder.in(a[3], 0, 10)) {
                return BAD;
            }
            if (a[0] == 3) {
                return NOTHING;
            }
            if (SORTS[a[0]] != a[1]) {
                return OTHER;
            }
            boolean within = a[2] >= 0 && a[2] + 4L * a[3] <= SIZES[a[0]];
            return a[3] == 0 || within ? 0 : OUTSIDE;
        }, SOME_SHEETS, Ladder.bounds(0, 2), from, new int[] {0, 1, 10, -1, 11, LEAST, MOST});
    }

    private static void taken() {
        int[] bricks = {20, 35, 20, 70, 10, 5};
        Ladder.look("taken", SOME, (x, a) -> {
            if (!Ladder.in(a[1], 0, 5)) {
                return BAD;
            }
            if (!isCell(a[0])) {
                return OUTSIDE;
            }
            boolean fits = a[0] == 44 ? a[1] == 0 || a[1] == 1 || a[1] == 3 : a[1] == 0 || a[1] == 2 || a[1] == 4;
            return a[0] == 34 ? OTHER : a[0] == 99 ? NOTHING : !fits ? OTHER : bricks[x.cellTold(a[0], 1)];
        }, new int[] {0, 34, 44, 99, -1, 100, LEAST, MOST}, new int[] {0, 1, 2, 3, 4, 5, -1, 6, LEAST, MOST});
    }
}
