/** The bounds that "Terms" and part 1, THE CITY, name: cells, sides, how many of each sort, what is at first. */
public final class CityBoundsTest {
    private static final int NONE = -1, BAD = -2, STATE = -3, FULL = -4;

    public static void main(String[] args) {
        sidesOfEachCell();
        cellsBeside();
        waysFromCellToCell();
        loadsOfARuin();
        weatherAsItWas();
        numbersOfPeople();
        eachInOneRow();
        numbersOfWalls();
        numbersOfRooms();
        rowsAndRailsAtFirst();
        tipAtFirst();
        kindsOnceAndAgain();
        Check.end();
    }

    /** The cell on a side, told in x and y; NONE beyond the edge. */
    private static int onSide(int cell, int side) {
        int x = cell % 10 + (side == 1 ? 1 : side == 3 ? -1 : 0);
        int y = cell / 10 + (side == 0 ? 1 : side == 2 ? -1 : 0);
        return x < 0 || x > 9 || y < 0 || y > 9 ? NONE : 10 * y + x;
    }

    private static void sidesOfEachCell() {
        RubbleCity x = new RubbleCity();
        for (int cell = 0; cell < 100; cell++) {
            for (int side = 0; side < 4; side++) {
                if (x.count(13) == 16) {
                    x = new RubbleCity();
                }
                int to = onSide(cell, side);
                int k = x.wall(cell, side, 1);
                Check.due("wall " + cell + " " + side, k < 0 ? k : 0, to == NONE ? STATE : 0);
                Check.due("falls from " + cell + " to", x.wallTold(k, 2), to);
            }
        }
    }

    private static void cellsBeside() {
        for (int from = 0; from < 100; from++) {
            RubbleCity x = new RubbleCity();
            x.sheet(0, 0, 0);
            for (int to = 0; to < 100; to++) {
                boolean beside = false;
                for (int side = 0; side < 4; side++) {
                    beside |= onSide(from, side) == to;
                }
                Check.due("row from " + from + " to " + to, x.row(0, 0, from, to), beside ? 0 : BAD);
            }
        }
    }

    private static void waysFromCellToCell() {
        for (int from = -1; from <= 100; from++) {
            RubbleCity x = new RubbleCity();
            x.sheet(0, 2, 2);
            x.cell(0, 0, from);
            for (int to = -1; to <= 100; to++) {
                x.cell(0, 1, to);
                boolean beside = false;
                for (int side = 0; side < 4 && from >= 0 && from < 100; side++) {
                    beside |= onSide(from, side) == to && to >= 0;
                }
                Check.due("rail from " + from + " to " + to, x.rail(0, 0, 1), beside ? 2 : BAD);
            }
        }
    }

    /** 0 .. 9999 at a ruin's telling; more may come by rails later, and is told. */
    private static void loadsOfARuin() {
        RubbleCity x = new RubbleCity();
        Check.due("0 loads", x.ruin(5, 0, 0), 0);
        Check.due("9999 loads", x.ruin(5, 0, 9999), 0);
        Check.due("10000 loads", x.ruin(5, 1, 10000), BAD);
        Check.due("-1 loads", x.ruin(5, 1, -1), BAD);
        Check.due("still 9999", x.cellTold(5, 0), 9999);
        Check.due("still kind 0", x.cellTold(5, 1), 0);
        x.ruin(4, 0, 60);
        Check.rail(x, 0, 1, 4, 5);
        x.run(1);
        Check.due("more than can be told", x.cellTold(5, 0), 10059);
        Check.due("all of it", x.count(1), 10059);
        Check.due("what it had", x.ruin(5, 0, 1), 10059);
        for (int c = 0; c < 100; c++) {
            x.ruin(c, 0, 9999);
        }
        Check.due("all cells full", x.count(1), 999900);
    }

    private static void weatherAsItWas() {
        int before = 0;
        RubbleCity x = new RubbleCity();
        for (int wet = -1; wet <= 10; wet++) {
            for (int wind = -1; wind <= 10; wind++) {
                boolean taken = wet >= 0 && wet <= 9 && wind >= 0 && wind <= 9;
                Check.due("weather " + wet + " " + wind, x.weather(wet, wind), taken ? before : BAD);
                before = taken ? 10 * wet + wind : before;
            }
        }
        Check.due("the last", x.weather(0, 0), 99);
    }

    private static void numbersOfPeople() {
        for (int strong = -1; strong <= 11; strong++) {
            boolean taken = strong >= 1 && strong <= 9;
            RubbleCity x = new RubbleCity();
            Check.due("strong " + strong, x.person(0, strong, 0, 0), taken ? 0 : BAD);
            Check.due("passes", x.personTold(0, 5), taken ? 8 * strong : NONE);
        }
        for (int age = -1; age <= 101; age++) {
            RubbleCity x = new RubbleCity();
            Check.due("age " + age, x.person(0, 1, age, 0), age >= 0 && age <= 99 ? 0 : BAD);
        }
        for (int kin = -1; kin <= 11; kin++) {
            RubbleCity x = new RubbleCity();
            Check.due("kin " + kin, x.person(0, 1, 0, kin), kin >= 0 && kin <= 9 ? 0 : BAD);
        }
        RubbleCity x = new RubbleCity();
        for (int p = 0; p < 30; p++) {
            Check.due("person " + p, x.person(p, 1, 0, 0), p < 24 ? p : FULL);
            Check.due("people", x.count(7), Math.min(p + 1, 24));
            Check.due("home of " + p, x.personTold(p, 0), p < 24 ? p : NONE);
        }
        Check.due("the last one moves", x.moves(23, 99), 23);
        Check.due("no one behind it", x.moves(24, 99), NONE);
        // The last one can be a hand, the next can't.
        Check.due("the last hand", Check.row(x, 3, 0, 1, 23), 1);
        Check.due("no such hand", Check.row(x, 3, 0, 1, 24), BAD);
    }

    /** 24 people fill three rows of eight; a fourth finds nobody free until a row lets some go. */
    private static void eachInOneRow() {
        RubbleCity x = new RubbleCity();
        for (int p = 0; p < 24; p++) {
            x.person(50, 1, 0, 0);
        }
        for (int r = 0; r < 3; r++) {
            int b = 8 * r;
            Check.due("row " + r, Check.row(x, r, 0, 1, b, b + 1, b + 2, b + 3, b + 4, b + 5, b + 6, b + 7), 8);
        }
        for (int p = 0; p < 24; p++) {
            Check.due("person " + p + " is in a row", Check.row(x, 3, 10, 11, p), STATE);
        }
        Check.due("nobody", Check.row(x, 3, 10, 11), 0);
        Check.due("row 1 without its last", Check.row(x, 1, 0, 1, 8, 9, 10, 11, 12, 13, 14), 7);
        Check.due("its last is free", Check.row(x, 3, 10, 11, 15), 1);
        Check.due("and can't go back", Check.row(x, 1, 0, 1, 15), STATE);
        Check.due("where it works", x.personTold(15, 6), 10);
        Check.due("row 1 as it was", x.rowTold(1, 0), 7);
        Check.due("nobody in row 3", Check.row(x, 3, 10, 11), 0);
        Check.due("it goes back", Check.row(x, 1, 0, 1, 15), 1);
        Check.due("the others of row 1 are home", x.personTold(8, 6), 50);
        Check.due("it works", x.personTold(15, 6), 0);
    }

    private static void numbersOfWalls() {
        for (int stands = -1; stands <= 101; stands++) {
            RubbleCity x = new RubbleCity();
            boolean taken = stands >= 1 && stands <= 99;
            Check.due("stands " + stands, x.wall(0, 0, stands), taken ? 0 : BAD);
            Check.due("stands", x.wallTold(0, 1), taken ? stands : NONE);
        }
        RubbleCity x = new RubbleCity();
        for (int k = 0; k < 20; k++) {
            Check.due("wall " + k, x.wall(k, 0, k + 1), k < 16 ? k : FULL);
            Check.due("walls", x.count(13), Math.min(k + 1, 16));
            Check.due("stands", x.wallTold(k, 1), k < 16 ? k + 1 : NONE);
        }
        // One that is down keeps its number: there is no room for another.
        x.pull(15);
        Check.due("one is down", x.wall(0, 0, 1), FULL);
    }

    private static void numbersOfRooms() {
        RubbleCity x = new RubbleCity();
        for (int r = 0; r < 15; r++) {
            Check.due("room " + r, x.room(99 - r, 0, 0, r + 1), r < 12 ? r : FULL);
            Check.due("rooms", x.count(12), Math.min(r + 1, 12));
            Check.due("its cell", x.roomTold(r, 0), r < 12 ? 99 - r : NONE);
            Check.due("its worth", x.roomTold(r, 2), r < 12 ? r + 1 : NONE);
            Check.due("warm", x.roomTold(r, 1), r < 12 ? 0 : NONE);
        }
        // The greatest needs are taken, and can be too great.
        RubbleCity y = new RubbleCity();
        Check.due("room", y.room(0, 9999, 0, 1), 0);
        Check.due("room", y.room(0, 0, 999, 99), 1);
        Check.due("too few bricks", y.mend(0), -6);
        Check.due("too few beams", y.mend(1), -6);
    }

    private static void rowsAndRailsAtFirst() {
        RubbleCity x = new RubbleCity();
        for (int r = 0; r < 4; r++) {
            Check.due("no hands", x.rowTold(r, 0), 0);
            Check.due("no loads", x.rowTold(r, 1), 0);
            Check.due("stuck at nobody", x.rowTold(r, 2), -1);
        }
        for (int r = 0; r < 3; r++) {
            Check.due("no way", x.railTold(r, 0), 0);
            Check.due("no loads", x.railTold(r, 1), 0);
        }
        // Days with nothing in the city change DAY alone.
        Check.due("60 days", x.run(60), 60);
        for (int what = 1; what < 14; what++) {
            Check.due("count " + what, x.count(what), what == 10 ? -1 : 0);
        }
        for (int r = 0; r < 4; r++) {
            Check.due("no loads", x.rowTold(r, 1), 0);
        }
    }

    private static void tipAtFirst() {
        RubbleCity x = new RubbleCity();
        x.ruin(0, 0, 60);
        Check.rail(x, 0, 1, 0, 1);
        x.run(1);
        Check.due("not tipped without a tip", x.count(2), 0);
        Check.due("come there", x.cellTold(1, 0), 60);
        // The first and the last cell can be it.
        for (int cell : new int[] {0, 99}) {
            RubbleCity y = new RubbleCity();
            int ahead = cell == 0 ? 1 : 98;
            Check.due("tip", y.tip(cell), -1);
            y.ruin(ahead, 0, 70);
            Check.rail(y, 0, 1, ahead, cell);
            y.run(1);
            Check.due("tipped", y.count(2), 60);
            Check.due("lies there", y.cellTold(cell, 0), 0);
            Check.due("tip", y.tip(-1), cell);
            y.run(1);
            Check.due("tipped", y.count(2), 60);
            Check.due("lies there", y.cellTold(cell, 0), 10);
        }
        // From the tip away goes what lies there.
        RubbleCity z = new RubbleCity();
        z.ruin(5, 0, 30);
        z.tip(5);
        Check.rail(z, 0, 1, 5, 6);
        z.run(1);
        Check.due("away from the tip", z.cellTold(6, 0), 30);
        Check.due("tipped", z.count(2), 0);
        // A way that ends where it begins, on the tip: all it takes is tipped.
        z.ruin(5, 0, 70);
        Check.rail(z, 0, 2, 5, 6, 5);
        z.run(1);
        Check.due("tipped", z.count(2), 60);
        Check.due("left there", z.cellTold(5, 0), 10);
    }

    private static void kindsOnceAndAgain() {
        RubbleCity x = new RubbleCity();
        for (int kind = -1; kind <= 7; kind++) {
            boolean taken = kind >= 0 && kind <= 5;
            Check.due("kind " + kind, x.ruin(50, kind, 0), taken ? 0 : BAD);
            Check.due("kind", x.cellTold(50, 1), kind < 0 ? -5 : Math.min(kind, 5));
        }
        Check.due("without a ruin weak is 3", x.cellTold(51, 2), 3);
    }
}
