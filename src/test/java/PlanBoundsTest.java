/** The bounds that part 4 names: pulls, mends, raids, lots, days beside, images, sheets. */
public final class PlanBoundsTest {
    private static final int NONE = -1, BAD = -2, STATE = -3, FULL = -4;
    private static final int NOTHING = -11, OUTSIDE = -12;

    public static void main(String[] args) {
        lateByADay();
        pulledOnesHurtNobody();
        likeOrders();
        asFarAsBricksGo();
        soManyAtMost();
        likeSets();
        mendedToTheLast();
        raidsToTheEdge();
        eightRaids();
        probedOnce();
        firstRaidThatHasSome();
        lowestTerms();
        likelyLeast();
        twentyFourPapers();
        fromThatDay();
        toldByThen();
        heirsByBits();
        besideToTheLastDay();
        clearInDays();
        imagesOfNothing();
        sheetsOfForty();
        bitsThatAreCut();
        peopleToTheEnd();
        Check.end();
    }

    // ---- pulls

    /**
     * With WET 4 and WEAK 3 a wall is 1 less a day, and with WIND 2 it is down at 6. The walls ahead of the last one
     * fill the places from 0 on, each on the last day that is in time for it; so the last one has its own place left.
     */
    private static void lateByADay() {
        for (int days = 1; days <= 7; days++) {
            for (int place = 0; place < 6; place++) {
                RubbleCity x = new RubbleCity();
                x.weather(4, 2);
                int[] walls = new int[place + 1];
                for (int i = 0; i <= place; i++) {
                    walls[i] = x.wall(0, 0, i == place ? 6 + days : 7 + i);
                }
                Check.due(days + " days at place " + place, Check.pulls(x, walls), days > place ? 0 : 1);
                x.run(days);
                Check.due("down behind " + days, x.wallTold(place, 0), 0);
            }
        }
        // One alone is never late: it is pulled ahead of (3).
        RubbleCity y = new RubbleCity();
        y.wall(0, 0, 1);
        y.weather(9, 9);
        Check.due("one alone", Check.pulls(y, 0), 0);
        Check.due("it", y.pullTold(0), 0);
        y.wall(0, 0, 1);
        Check.due("one of two", Check.pulls(y, 1, 0), 1);
        Check.due("first by places", y.pullTold(0), 1);
        Check.due("then", y.pullTold(1), 0);
        Check.due("behind", y.pullTold(2), NONE);
    }

    private static void pulledOnesHurtNobody() {
        RubbleCity x = new RubbleCity();
        x.person(10, 1, 1, 1);
        x.wall(0, 0, 1);
        x.weather(9, 9);
        Check.pulls(x, 0);
        Check.due("nobody is hurt", x.personTold(0, 1), 0);
        Check.due("it stands", x.wallTold(0, 0), 1);
        Check.due("nothing lies there", x.cellTold(10, 0), 0);
        Check.due("day", x.count(0), 0);
    }

    private static void likeOrders() {
        RubbleCity x = new RubbleCity();
        for (int k = 0; k < 16; k++) {
            x.wall(k, 0, 99);
        }
        Check.due("none is late", Check.pulls(x, 15, 3, 9, 0, 14, 1), 0);
        int[] due = {15, 3, 9, 0, 14, 1, NONE};
        for (int i = 0; i < due.length; i++) {
            Check.due("as on the sheet " + i, x.pullTold(i), due[i]);
        }
        // The last one on the sheet must come first; the others stay as on the sheet.
        RubbleCity y = new RubbleCity();
        for (int k = 0; k < 5; k++) {
            y.wall(k, 0, 99);
        }
        y.wall(5, 0, 27);
        y.weather(0, 9);
        Check.due("none is late", Check.pulls(y, 4, 3, 2, 1, 0, 5), 0);
        int[] then = {5, 4, 3, 2, 1, 0};
        for (int i = 0; i < then.length; i++) {
            Check.due("the last one first " + i, y.pullTold(i), then[i]);
        }
    }

    // ---- rooms

    /** 70 bricks and 4 beams are kept for each ten loads of a tenement. */
    private static RubbleCity withTens(int tens) {
        RubbleCity x = new RubbleCity();
        x.person(50, 9, 30, 1);
        x.ruin(0, 3, 10 * tens);
        Check.row(x, 0, 0, 1, 0);
        x.run(60);
        Check.due("bricks", x.count(4), 70 * tens);
        Check.due("beams", x.count(5), 4 * tens);
        return x;
    }

    private static void asFarAsBricksGo() {
        int[] bricks = {0, 69, 70, 71};
        int[] beams = {0, 3, 4, 5};
        for (int b = 0; b < bricks.length; b++) {
            for (int m = 0; m < beams.length; m++) {
                RubbleCity x = withTens(1);
                x.room(9, bricks[b], beams[m], 7);
                boolean can = bricks[b] <= 70 && beams[m] <= 4;
                Check.due("mends " + bricks[b] + " " + beams[m], x.mends(12), can ? 7 : 0);
                Check.due("mendTold", x.mendTold(), can ? 1 : 0);
                Check.due("mend", x.mend(0), can ? 70 - bricks[b] : -6);
                Check.due("bricks", x.count(4), can ? 70 - bricks[b] : 70);
                Check.due("beams", x.count(5), can ? 4 - beams[m] : 4);
                Check.due("warm", x.roomTold(0, 1), can ? 1 : 0);
            }
        }
        // Two that go together to the last brick and beam, and two that don't.
        RubbleCity x = withTens(1);
        x.room(9, 30, 2, 5);
        x.room(9, 40, 2, 5);
        x.room(9, 41, 2, 6);
        x.room(9, 40, 3, 6);
        Check.due("both", x.mends(2), 10);
        Check.due("both", x.mendTold(), 3);
    }

    private static void soManyAtMost() {
        RubbleCity x = new RubbleCity();
        int all = 0;
        for (int r = 0; r < 12; r++) {
            x.room(r, 0, 0, 99);
        }
        for (int most = 0; most <= 12; most++) {
            Check.due("mends " + most, x.mends(most), all);
            Check.due("mendTold " + most, x.mendTold(), (1 << most) - 1);
            all += 99;
        }
        Check.due("all", x.mendTold(), 4095);
        Check.due("13", x.mends(13), BAD);
        Check.due("found last", x.mendTold(), 4095);
        for (int r = 0; r < 12; r++) {
            Check.due("mend", x.mend(r), 0);
        }
        Check.due("all are warm", x.mends(12), 0);
        Check.due("none", x.mendTold(), 0);
    }

    private static void likeSets() {
        RubbleCity x = new RubbleCity();
        int[] worth = {3, 5, 2, 4, 1};
        for (int w : worth) {
            x.room(0, 0, 0, w);
        }
        // 3 + 5 is the only best pair; of singles 5 is.
        Check.due("one", x.mends(1), 5);
        Check.due("one", x.mendTold(), 2);
        Check.due("two", x.mends(2), 9);
        Check.due("rooms 1 and 3", x.mendTold(), 10);
        x.mend(1);
        Check.due("one without it", x.mends(1), 4);
        x.mend(3);
        Check.due("two", x.mends(2), 5);
        Check.due("rooms 0 and 2", x.mendTold(), 5);
        RubbleCity y = new RubbleCity();
        for (int w : new int[] {4, 2, 2, 4}) {
            y.room(0, 0, 0, w);
        }
        Check.due("of like ones", y.mends(1), 4);
        Check.due("the least as bits", y.mendTold(), 1);
        Check.due("of like ones", y.mends(3), 10);
        Check.due("rooms 0, 1, 3 ahead of 0, 2, 3", y.mendTold(), 11);
    }

    private static void mendedToTheLast() {
        RubbleCity x = withTens(1);
        x.room(9, 70, 4, 1);
        Check.due("to the last brick", x.mend(0), 0);
        Check.due("bricks", x.count(4), 0);
        Check.due("beams", x.count(5), 0);
        Check.due("warm", x.mend(0), STATE);
        x.room(9, 0, 0, 1);
        Check.due("needs nothing", x.mend(1), 0);
        x.room(9, 1, 0, 1);
        x.room(9, 0, 1, 1);
        Check.due("one brick too few", x.mend(2), -6);
        Check.due("one beam too few", x.mend(3), -6);
    }

    // ---- shells

    private static void raidsToTheEdge() {
        for (int cell = 0; cell < 100; cell++) {
            for (int side = 0; side < 4; side++) {
                int[] room = {10 - cell / 10, 10 - cell % 10, cell / 10 + 1, cell % 10 + 1};
                for (int length : new int[] {1, room[side] - 1, room[side], room[side] + 1, 10}) {
                    if (length < 1 || length > 10) {
                        continue;
                    }
                    RubbleCity x = new RubbleCity();
                    Check.due("raid", x.raid(cell, side, length, 1), 0);
                    int cells = Math.min(length, room[side]);
                    Check.due("from " + cell + " along " + side + ", " + length, x.likely(cell, 1), cells);
                    int[] step = {10, 1, -10, -1};
                    Check.due("its last cell", x.likely(cell + step[side] * (cells - 1), 1), cells);
                    int behind = cell + step[side] * cells;
                    Check.due("behind its last cell", behind < 0 || behind > 99 ? 0 : x.likely(behind, 0), 0);
                }
            }
        }
    }

    private static void eightRaids() {
        RubbleCity x = new RubbleCity();
        for (int k = 0; k < 10; k++) {
            Check.due("raid " + k, x.raid(55, 0, 1, 9), k < 8 ? k : FULL);
            Check.due("shells there", x.likely(55, 0), 9 * Math.min(k + 1, 8));
        }
        Check.due("nine are found", x.probe(55, 9), 63);
        RubbleCity y = new RubbleCity();
        y.raid(0, 0, 1, 9);
        Check.due("all nine", y.probe(0, 9), 0);
    }

    private static void probedOnce() {
        RubbleCity x = new RubbleCity();
        x.raid(0, 1, 2, 2);
        Check.due("three of two", x.probe(0, 3), -6);
        Check.due("not probed by it", x.likely(0, 1), 1);
        Check.due("ten", x.probe(0, 10), BAD);
        Check.due("below 0", x.probe(0, -1), BAD);
        Check.due("two of two", x.probe(0, 2), 0);
        Check.due("again", x.probe(0, 0), STATE);
        Check.due("again, too many", x.probe(0, 3), STATE);
        Check.due("again, ten", x.probe(0, 10), BAD);
        Check.due("none left elsewhere", x.likely(1, 0), 0);
        Check.due("next", x.next(), NONE);
        Check.due("one of none", x.probe(1, 1), -6);
        Check.due("none of none", x.probe(1, 0), 0);
        // All cells of a raid are probed, but it has shells left: they are likely nowhere.
        RubbleCity y = new RubbleCity();
        y.raid(0, 1, 2, 2);
        y.probe(0, 0);
        Check.due("both in the other", y.likely(1, 0), 2);
        Check.due("next", y.next(), 1);
        Check.due("left", y.probe(1, 1), 1);
        Check.due("nowhere", y.next(), NONE);
        Check.due("0", y.likely(1, 0), 0);
        Check.due("by 1", y.likely(1, 1), 1);
        for (int c = 0; c < 100; c++) {
            Check.due("probe " + c, y.probe(c, 0), c < 2 ? STATE : 0);
        }
        // A raid over cells that were probed all.
        Check.due("raid", y.raid(0, 1, 10, 9), 1);
        Check.due("0", y.likely(5, 0), 0);
        Check.due("nowhere", y.next(), NONE);
    }

    private static void firstRaidThatHasSome() {
        RubbleCity x = new RubbleCity();
        x.raid(44, 1, 2, 1);
        x.raid(44, 0, 2, 2);
        x.raid(44, 3, 2, 3);
        // Of 6 left, 3 are found: all of raids 0 and 1.
        Check.due("left", x.probe(44, 3), 3);
        Check.due("raid 0", x.likely(45, 0), 0);
        Check.due("raid 1", x.likely(54, 0), 0);
        Check.due("raid 2", x.likely(43, 0), 3);
        RubbleCity y = new RubbleCity();
        y.raid(44, 1, 2, 1);
        y.raid(44, 0, 2, 2);
        y.raid(44, 3, 2, 3);
        Check.due("all", y.probe(44, 6), 0);
        Check.due("next", y.next(), NONE);
        RubbleCity z = new RubbleCity();
        z.raid(44, 1, 2, 1);
        z.raid(44, 0, 2, 2);
        Check.due("none", z.probe(44, 0), 3);
        Check.due("raid 0", z.likely(45, 0), 1);
        Check.due("raid 1", z.likely(54, 0), 2);
    }

    private static void lowestTerms() {
        for (int shells = 1; shells <= 9; shells++) {
            for (int length = 1; length <= 10; length++) {
                RubbleCity x = new RubbleCity();
                x.raid(0, 1, length, shells);
                int common = 1;
                for (int d = 2; d <= 9; d++) {
                    common = shells % d == 0 && length % d == 0 ? d : common;
                }
                Check.due(shells + " by " + length, x.likely(0, 0), shells / common);
                Check.due(shells + " by " + length, x.likely(0, 1), length / common);
            }
        }
        // The greatest there is: 8 raids of 9 shells over one cell.
        RubbleCity x = new RubbleCity();
        for (int k = 0; k < 8; k++) {
            x.raid(99, k % 4, k % 4 < 2 ? 10 : 1, 9);
        }
        Check.due("72", x.likely(99, 0), 72);
        Check.due("by 1", x.likely(99, 1), 1);
        Check.due("next", x.next(), 99);
    }

    private static void likelyLeast() {
        RubbleCity x = new RubbleCity();
        x.raid(99, 3, 10, 1);
        Check.due("of like ones", x.next(), 90);
        x.raid(0, 0, 10, 1);
        Check.due("both raids over 90", x.next(), 90);
        x.probe(90, 0);
        Check.due("of like ones", x.next(), 0);
        x.probe(0, 1);
        Check.due("one by nine", x.next(), 91);
        // 1/2 and 4/8 are alike, 5/9 is more, 4/9 less.
        RubbleCity y = new RubbleCity();
        y.raid(50, 1, 2, 1);
        y.raid(30, 1, 8, 4);
        Check.due("alike", y.next(), 30);
        y.raid(70, 1, 9, 5);
        Check.due("more", y.next(), 70);
        y.raid(10, 1, 9, 4);
        Check.due("less", y.next(), 70);
    }

    // ---- lots

    private static void twentyFourPapers() {
        RubbleCity x = new RubbleCity();
        x.person(0, 1, 1, 1);
        x.person(0, 1, 1, 1);
        for (int k = 0; k < 26; k++) {
            Check.due("burn ahead of it", x.burn(k), NONE);
            Check.due("paper " + k, x.paper(k % 12, k / 12 % 2, 0), k < 24 ? k : FULL);
        }
        for (int lot = 0; lot < 12; lot++) {
            Check.due("told last", x.owner(lot, 0, 0), 1);
        }
        // One that is burnt keeps its number: there is no room for another.
        Check.due("burn", x.burn(23), 1);
        Check.due("full", x.paper(0, 0, 0), FULL);
        Check.due("owner", x.owner(11, 0, 0), 0);
        Check.due("owner", x.owner(10, 0, 0), 1);
        for (int lot = -2; lot < 15; lot++) {
            boolean is = lot >= 0 && lot <= 11;
            Check.due("lot " + lot, Math.min(x.owner(lot, 0, 0), 0), is ? 0 : -5);
            Check.due("heirs of " + lot, Math.min(x.heirs(lot, 0, 0), 0), is ? 0 : -5);
        }
    }

    private static void fromThatDay() {
        int[] from = {0, 1, 1000, 1999, 2000};
        for (int f : from) {
            RubbleCity x = new RubbleCity();
            x.person(0, 1, 1, 1);
            Check.due("paper", x.paper(0, 0, f), 0);
            for (int day : new int[] {0, f - 1, f, f + 1, 2000}) {
                int due = day < 0 || day > 2000 ? BAD : day < f ? NONE : 0;
                Check.due("from " + f + " on " + day, x.owner(0, day, 0), due);
            }
        }
        RubbleCity y = new RubbleCity();
        for (int p = 0; p < 4; p++) {
            y.person(0, 1, 1, 1);
        }
        // The greatest from; of like ones told last.
        y.paper(0, 0, 5);
        y.paper(0, 1, 4);
        Check.due("the greatest from", y.owner(0, 9, 0), 0);
        Check.due("ahead of it", y.owner(0, 4, 0), 1);
        y.paper(0, 2, 5);
        Check.due("told last", y.owner(0, 9, 0), 2);
        y.paper(0, 3, 6);
        Check.due("a greater one", y.owner(0, 9, 0), 3);
        Check.due("not yet", y.owner(0, 5, 0), 2);
    }

    private static void toldByThen() {
        RubbleCity x = new RubbleCity();
        x.person(0, 1, 1, 1);
        x.run(3);
        x.paper(0, 0, 0);
        x.run(3);
        x.burn(0);
        x.run(3);
        int[] due = {NONE, NONE, NONE, 0, 0, 0, NONE, NONE, NONE, NONE, BAD};
        for (int known = 0; known < due.length; known++) {
            Check.due("known on " + known, x.owner(0, 0, known), due[known]);
            Check.due("heirs known on " + known, x.heirs(0, 0, known), due[known] == 0 ? 1 : due[known]);
        }
        Check.due("known on -1", x.owner(0, 0, -1), BAD);
        // Told and burnt on one day: never known.
        RubbleCity y = new RubbleCity();
        y.person(0, 1, 1, 1);
        y.paper(0, 0, 0);
        y.burn(0);
        Check.due("on that day", y.owner(0, 0, 0), NONE);
        Check.due("burnt once", y.burn(0), STATE);
    }

    private static void heirsByBits() {
        RubbleCity x = new RubbleCity();
        for (int p = 0; p < 24; p++) {
            x.person(p, 1, 1, p % 10);
        }
        for (int p = 0; p < 24; p++) {
            Check.due("paper", x.paper(p % 12, p, p / 12), p);
        }
        for (int p = 0; p < 24; p++) {
            Check.due("heirs", x.heirs(p % 12, p / 12, 0), 1 << p);
        }
        // Kin 9 is of persons 9 and 19 alone.
        for (int i = 0; i < 3; i++) {
            x.pull(x.wall(8, 1, 9));
        }
        Check.due("owner", x.owner(9, 0, 0), 9);
        Check.due("the other", x.heirs(9, 0, 0), 1 << 19);
        for (int i = 0; i < 3; i++) {
            x.pull(x.wall(18, 1, 9));
        }
        Check.due("none", x.heirs(9, 0, 0), 0);
    }

    // ---- ahead

    private static void besideToTheLastDay() {
        RubbleCity x = new RubbleCity();
        x.ruin(5, 0, 7);
        Check.days(x, 1940);
        Check.due("60 days", x.beside(60, 0), 7);
        Check.due("61 days", x.beside(61, 0), RubbleCity.NO);
        x.run(1);
        Check.due("to 2001", x.beside(60, 0), RubbleCity.NO);
        Check.due("to 2000", x.beside(59, 0), 7);
        x.run(58);
        Check.due("the last day", x.beside(1, 0), 7);
        x.run(1);
        Check.due("none behind it", x.beside(1, 0), RubbleCity.NO);
        // One of 60 and one of 1 day tell what is then.
        RubbleCity y = new RubbleCity();
        y.ruin(0, 3, 9999);
        y.person(50, 9, 30, 1);
        Check.row(y, 0, 0, 1, 0);
        Check.due("bricks in one day", y.beside(1, 1), 490);
        Check.due("bricks in 60 days", y.beside(60, 1), 60 * 490);
        Check.due("nothing is kept", y.count(4), 0);
        Check.due("nobody dies", y.beside(60, 2), 0);
        Check.due("nobody is hurt", y.beside(60, 3), 0);
    }

    private static void clearInDays() {
        for (int n = 1; n <= 60; n++) {
            RubbleCity x = new RubbleCity();
            x.person(50, 1, 30, 1);
            Check.row(x, 0, 0, 1, 0);
            x.ruin(0, 0, 8 * n);
            Check.due("clear in " + n, x.clear(0, n), n);
            Check.due("clear in 60", x.clear(0, 60), n);
            Check.due("not in fewer", x.clear(0, n - 1), n == 1 ? BAD : STATE);
            x.ruin(0, 0, 8 * n + 1);
            Check.due("one load more", x.clear(0, n), STATE);
            x.ruin(0, 0, 8 * n - 7);
            Check.due("seven fewer", x.clear(0, n), n);
            x.ruin(0, 0, 0);
            Check.due("none now", x.clear(0, n), 0);
        }
        // A cell of which nothing goes, and one to which something comes.
        RubbleCity y = new RubbleCity();
        y.ruin(99, 0, 1);
        Check.due("never", y.clear(99, 60), STATE);
        Check.due("the others", y.clear(98, 60), 0);
    }

    private static void imagesOfNothing() {
        RubbleCity x = new RubbleCity();
        Check.due("none", x.back(), STATE);
        Check.due("image", x.image(), 0);
        x.ruin(5, 1, 50);
        x.weather(5, 5);
        for (int p = 0; p < 24; p++) {
            x.person(p, 1, 1, 1);
        }
        for (int k = 0; k < 16; k++) {
            x.wall(k, 0, 99);
        }
        for (int r = 0; r < 12; r++) {
            x.room(r, 0, 0, 1);
            x.mend(r);
        }
        x.run(60);
        Check.due("back", x.back(), 0);
        Check.due("loads", x.count(1), 0);
        Check.due("weather", x.weather(0, 0), 0);
        Check.due("people", x.count(7), 24);
        Check.due("walls", x.count(13), 16);
        Check.due("rooms", x.count(12), 12);
        for (int p = 0; p < 24; p++) {
            Check.due("home", x.personTold(p, 0), -1);
            Check.due("given", x.personTold(p, 3), 0);
        }
        for (int k = 0; k < 16; k++) {
            Check.due("down", x.wallTold(k, 0), 0);
            Check.due("stands", x.wallTold(k, 1), 0);
            Check.due("pull", x.pull(k), STATE);
        }
        for (int r = 0; r < 12; r++) {
            Check.due("not warm", x.roomTold(r, 1), 0);
        }
        // There is no more room than before, and days go on.
        Check.due("full", x.person(0, 1, 1, 1), FULL);
        Check.due("full", x.wall(0, 0, 1), FULL);
        Check.due("full", x.room(0, 0, 0, 1), FULL);
        Check.due("run", x.run(1), 1);
        Check.due("given", x.personTold(23, 3), 1);
        Check.due("back again", x.back(), 0);
        Check.due("given", x.personTold(23, 3), 0);
        // From the last day back there are days again.
        Check.days(x, 2000);
        Check.due("full", x.run(1), FULL);
        x.back();
        Check.due("run", x.run(60), 60);
    }

    // ---- sheets

    private static void sheetsOfForty() {
        for (int s = -2; s < 6; s++) {
            boolean is = s >= 0 && s <= 3;
            RubbleCity x = new RubbleCity();
            Check.due("missing at first", x.cell(s, 0, 0), is ? NOTHING : BAD);
            for (int n = -1; n <= 41; n++) {
                int due = !is || n > 40 ? BAD : n < 0 ? -14 : 1;
                Check.due("sheet " + s + " of " + n, x.sheet(s, 0, n), due);
                if (due == 1) {
                    Check.due("its last", x.cell(s, n - 1, 1), n == 0 ? OUTSIDE : 1);
                    Check.due("behind it", x.cell(s, n, 1), OUTSIDE);
                    Check.due("ahead of it", x.cell(s, -1, 1), OUTSIDE);
                }
            }
            Check.due("as it was", x.cell(s, 39, 1), is ? 1 : BAD);
            Check.due("as it was", x.cell(s, 40, 1), is ? OUTSIDE : BAD);
            Check.due("missing", x.sheet(s, -1, -1), is ? 1 : BAD);
            Check.due("missing", x.cell(s, 0, 0), is ? NOTHING : BAD);
            Check.due("missing still", x.sheet(s, -1, 41), is ? 1 : BAD);
        }
        // Told anew, all is 0, also what stood behind the end of a shorter one.
        RubbleCity x = new RubbleCity();
        Check.write(x, 0, 50, 1, 1, 1, 60, 1, 1, 1);
        x.sheet(0, 2, 2);
        x.sheet(0, 2, 8);
        Check.due("nobody comes", x.people(0, 2, 0, 2), 0);
        Check.write(x, 0, 50, 1, 1, 1);
        x.sheet(0, -1, 0);
        x.sheet(0, 2, 4);
        Check.due("nobody comes", x.people(0, 2, 0, 1), 0);
    }

    /** The place of the first number of a sheet, told by whether it is a way from there to the next. */
    private static boolean isCellThere(int sort, int v, int cell) {
        RubbleCity x = new RubbleCity();
        Check.writeSort(x, 0, sort, v, cell + 1);
        return x.rail(0, 0, 1) == 2;
    }

    private static void bitsThatAreCut() {
        int[] bits = {8, 16};
        for (int sort = 0; sort < 2; sort++) {
            int wrap = 1 << bits[sort];
            for (int turns : new int[] {-2, -1, 0, 1, 2, 100}) {
                Check.due("sort " + sort + ", " + turns, isCellThere(sort, 42 + turns * wrap, 42) ? 1 : 0, 1);
                Check.due("ints, " + turns, isCellThere(2, 42 + turns * wrap, 42) ? 1 : 0, turns == 0 ? 1 : 0);
            }
            Check.due("half a turn", isCellThere(sort, 42 + wrap / 2, 42) ? 1 : 0, 0);
            Check.due("the sign", isCellThere(sort, 42 | Integer.MIN_VALUE, 42) ? 1 : 0, 1);
        }
        Check.due("a byte's turn in a short", isCellThere(1, 42 + 256, 42) ? 1 : 0, 0);
        Check.due("the sign of an int", isCellThere(2, 42 | Integer.MIN_VALUE, 42) ? 1 : 0, 0);
        // Copies keep them.
        RubbleCity x = new RubbleCity();
        Check.writeSort(x, 0, Check.SHORTS, 42 + 65536, 43 - 65536);
        x.sheet(1, 1, 3);
        Check.due("copy", x.copy(0, 0, 1, 1, 2), 2);
        Check.due("copy", x.copy(1, 1, 1, 0, 2), 2);
        x.sheet(2, 1, 2);
        Check.due("copy", x.copy(1, 0, 2, 0, 2), 2);
        Check.due("rail", x.rail(0, 2, 1), 2);
    }

    private static void peopleToTheEnd() {
        for (int n = 0; n <= 10; n++) {
            for (int size = Math.max(0, 4 * n - 5); size <= Math.min(40, 4 * n + 5); size++) {
                RubbleCity x = new RubbleCity();
                x.sheet(0, 1, size);
                for (int i = 0; i < size; i++) {
                    x.cell(0, i, 1 + i / 4 % 9);
                }
                boolean within = size >= 4 * n;
                Check.due(n + " of " + size, x.people(0, 1, 0, n), within ? n : OUTSIDE);
                int came = Math.min(size / 4, n);
                Check.due("what stood ahead came", x.count(7), came);
                Check.due("the last of them", x.personTold(came - 1, 0), came == 0 ? NONE : 1 + (came - 1) % 9);
            }
        }
        // Who is refused is left out, whatever the refusal; who is behind comes.
        RubbleCity x = new RubbleCity();
        Check.write(x, 0, -1, 1, 1, 1, 100, 1, 1, 1, 1, 0, 1, 1, 2, 10, 1, 1, 3, 1, -1, 1, 4, 1, 100, 1, 5, 1, 1, -1,
                6, 1, 1, 10, 7, 1, 0, 0, 8, 9, 99, 9);
        Check.due("two of ten", x.people(0, 2, 0, 10), 2);
        Check.due("home", x.personTold(0, 0), 7);
        Check.due("home", x.personTold(1, 0), 8);
        // At 23 one more comes, and the others are left out.
        for (int p = 2; p < 23; p++) {
            x.person(0, 1, 1, 1);
        }
        Check.due("one of two", x.people(0, 2, 32, 2), 1);
        Check.due("home", x.personTold(23, 0), 7);
        Check.due("none", x.people(0, 2, 32, 2), 0);
        Check.due("none, and the end", x.people(0, 2, 32, 3), OUTSIDE);
        Check.due("people", x.count(7), 24);
    }
}
