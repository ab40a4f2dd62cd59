/** The bounds that part 3, A DAY, names: what hands pass, whole tens, cars, wear and wind, HURT 9, cards, DAY % 7. */
public final class DayBoundsTest {
    private static final int NONE = -1, STATE = -3;

    public static void main(String[] args) {
        hoursOfWork();
        strongLessHurt();
        whoPassesNothing();
        theWeakestHand();
        asManyAsThereAre();
        wholeTens();
        workedOnlyIfAny();
        carsByCells();
        asManyAsThereAreOnRails();
        wearAndWind();
        onlyWhoIsThere();
        hurtNine();
        cardsAtMostNine();
        everySeventhDay();
        theLastDay();
        byNumbers();
        Check.end();
    }

    /** One hand of a strength at cell 44, which has a ruin and loads, to 45. */
    private static RubbleCity oneHand(int strong, int loads) {
        RubbleCity x = new RubbleCity();
        x.ruin(44, 0, loads);
        x.person(0, strong, 30, 1);
        Check.row(x, 0, 44, 45, 0);
        return x;
    }

    /** Person 0, who is at home in cell 0, is hurt n times by a wall. */
    private static void hurtAtHome(RubbleCity x, int n) {
        for (int i = 0; i < n; i++) {
            x.pull(x.wall(1, 3, 50));
        }
    }

    private static void hoursOfWork() {
        int[] told = {0, 1, 13, 14, 15, 100, 999};
        int[] hours = {0, 1, 13, 14, 14, 14, 14};
        for (int i = 0; i < told.length; i++) {
            RubbleCity x = oneHand(9, 9999);
            Check.rule(x, "work " + told[i] + ";");
            Check.due("says", x.says(0, 0), told[i]);
            Check.due("passes by work " + told[i], x.personTold(0, 5), 9 * hours[i]);
            x.run(1);
            Check.due("left by work " + told[i], x.rowTold(0, 1), 9 * hours[i]);
            Check.due("worked by work " + told[i], x.personTold(0, 2), hours[i]);
        }
    }

    private static void strongLessHurt() {
        for (int strong = 1; strong <= 9; strong++) {
            for (int walls = 0; walls <= 2; walls++) {
                RubbleCity x = new RubbleCity();
                x.ruin(44, 0, 999);
                x.person(0, strong, 30, 1);
                hurtAtHome(x, walls);
                Check.row(x, 0, 44, 45, 0);
                int passes = 8 * Math.max(strong - 3 * walls, 0);
                Check.due("strong " + strong + ", hurt " + 3 * walls, x.personTold(0, 5), passes);
                Check.due("by day", x.personTold(0, 6), passes > 0 ? 44 : 0);
                x.run(1);
                Check.due("left", x.rowTold(0, 1), passes);
                Check.due("loads", x.cellTold(44, 0), 999 - passes);
                Check.due("worked", x.personTold(0, 2), passes > 0 ? 8 : 0);
            }
        }
    }

    private static void whoPassesNothing() {
        int[] stay = {0, 1, 999};
        for (int told : stay) {
            RubbleCity x = oneHand(5, 100);
            Check.rule(x, "work 8;stay " + told + ";");
            Check.due("passes with stay " + told, x.personTold(0, 5), told == 0 ? 40 : 0);
            Check.due("by day with stay " + told, x.personTold(0, 6), told == 0 ? 44 : 0);
        }
        RubbleCity x = oneHand(9, 100);
        Check.rule(x, "work 14;stay 1 if hurt<9;");
        hurtAtHome(x, 3);
        Check.due("dead", x.personTold(0, 4), 1);
        Check.due("the dead do not stay", x.says(0, 2), 0);
        Check.due("but pass nothing", x.personTold(0, 5), 0);
        x.run(1);
        Check.due("left", x.rowTold(0, 1), 0);
        Check.due("stuck at the dead one", x.rowTold(0, 2), 0);
    }

    private static void theWeakestHand() {
        // Eight hands, the weakest first, last, and twice.
        int[][] strong = {{1, 2, 3, 4, 5, 6, 7, 8}, {8, 7, 6, 5, 4, 3, 2, 1}, {9, 2, 9, 2, 9, 9, 9, 2},
            {5, 5, 5, 5, 5, 5, 5, 5}};
        int[] stuck = {0, 7, 1, 0};
        int[] passed = {8, 8, 16, 40};
        for (int i = 0; i < strong.length; i++) {
            RubbleCity x = new RubbleCity();
            x.ruin(44, 0, 999);
            for (int p = 0; p < 8; p++) {
                x.person(0, strong[i][p], 30, 1);
            }
            Check.row(x, 0, 44, 45, 0, 1, 2, 3, 4, 5, 6, 7);
            x.run(1);
            Check.due("stuck " + i, x.rowTold(0, 2), stuck[i]);
            Check.due("passed " + i, x.rowTold(0, 1), passed[i]);
            for (int p = 0; p < 8; p++) {
                Check.due("each hand worked", x.personTold(p, 2), 8);
            }
        }
    }

    private static void asManyAsThereAre() {
        int[] loads = {0, 1, 39, 40, 41, 9999};
        for (int n : loads) {
            RubbleCity x = oneHand(5, n);
            x.run(1);
            int left = Math.min(n, 40);
            Check.due("left of " + n, x.rowTold(0, 1), left);
            Check.due("loads of " + n, x.cellTold(44, 0), n - left);
            Check.due("come there", x.cellTold(45, 0), left - left / 10 * 4);
            Check.due("stuck", x.rowTold(0, 2), 0);
        }
    }

    private static void wholeTens() {
        for (int n = 0; n <= 41; n++) {
            RubbleCity x = new RubbleCity();
            x.ruin(44, 4, n);
            x.person(0, 9, 30, 1);
            Check.row(x, 0, 44, 45, 0);
            RubbleCity y = new RubbleCity();
            y.ruin(44, 4, n);
            y.person(0, 9, 30, 1);
            Check.row(y, 0, 44, 45, 0);
            y.tip(45);
            x.run(1);
            y.run(1);
            int tens = n / 10;
            Check.due("dust of " + n, x.count(3), 4 * tens);
            Check.due("bricks of " + n, x.count(4), 10 * tens);
            Check.due("beams of " + n, x.count(5), 7 * tens);
            Check.due("iron of " + n, x.count(6), 5 * tens);
            Check.due("others of " + n, x.cellTold(45, 0), n - 4 * tens);
            Check.due("dust of " + n, y.count(3), 4 * tens);
            Check.due("tipped of " + n, y.count(2), n - 4 * tens);
            Check.due("not come", y.cellTold(45, 0), 0);
        }
    }

    private static void workedOnlyIfAny() {
        RubbleCity x = oneHand(1, 9);
        int[] left = {8, 1, 0, 0};
        int[] worked = {8, 16, 16, 16};
        for (int day = 0; day < left.length; day++) {
            x.run(1);
            Check.due("left on day " + day, x.rowTold(0, 1), left[day]);
            Check.due("worked by day " + day, x.personTold(0, 2), worked[day]);
        }
    }

    private static void carsByCells() {
        for (int n = 2; n <= 12; n++) {
            int[] way = new int[n];
            for (int i = 0; i < n; i++) {
                way[i] = i < 10 ? i : i == 10 ? 19 : 18;
            }
            for (int cars = 0; cars <= 20; cars++) {
                RubbleCity x = new RubbleCity();
                x.ruin(0, 3, 9999);
                Check.due("rail", Check.rail(x, 2, cars, way), n);
                x.run(1);
                int went = 60 * cars / (n - 1);
                Check.due(cars + " cars over " + n, x.railTold(2, 1), went);
                Check.due("first cell", x.cellTold(0, 0), 9999 - went);
                Check.due("last cell", x.cellTold(way[n - 1], 0), went);
                Check.due("nothing is kept", x.count(4), 0);
            }
        }
    }

    private static void asManyAsThereAreOnRails() {
        int[] loads = {0, 1, 59, 60, 61};
        for (int n : loads) {
            RubbleCity x = new RubbleCity();
            x.ruin(0, 0, n);
            Check.rail(x, 0, 1, 0, 1);
            x.run(1);
            Check.due("went of " + n, x.railTold(0, 1), Math.min(n, 60));
            Check.due("left of " + n, x.cellTold(0, 0), Math.max(n - 60, 0));
            Check.due("came of " + n, x.cellTold(1, 0), Math.min(n, 60));
        }
        // From a cell to itself by another: all that went is there again.
        RubbleCity y = new RubbleCity();
        y.ruin(0, 0, 100);
        Check.rail(y, 0, 2, 0, 1, 0);
        y.run(1);
        Check.due("went", y.railTold(0, 1), 60);
        Check.due("there again", y.cellTold(0, 0), 100);
    }

    /** At 3 times WIND it falls, at one more it stands; wear is cut. */
    private static void wearAndWind() {
        int[] weak = {3, 3, 3, 2, 7, 2, 6};
        for (int kind = -1; kind < 6; kind++) {
            for (int wet = 0; wet <= 9; wet++) {
                for (int wind = 0; wind <= 9; wind++) {
                    RubbleCity x = new RubbleCity();
                    if (kind >= 0) {
                        x.ruin(44, kind, 0);
                    }
                    int wear = wet * weak[kind + 1] / 10;
                    int falls = Math.max(wear + 3 * wind, 1);
                    x.wall(44, 0, falls + 1);
                    x.wall(44, 0, falls);
                    x.weather(wet, wind);
                    x.run(1);
                    String at = "kind " + kind + ", wet " + wet + ", wind " + wind;
                    Check.due(at + ": worn", x.wallTold(0, 1), falls + 1 - wear);
                    Check.due(at + ": stands", x.wallTold(0, 0), 1);
                    boolean down = falls - wear <= 3 * wind;
                    Check.due(at + ": worn", x.wallTold(1, 1), falls - wear);
                    Check.due(at + ": falls", x.wallTold(1, 0), down ? 0 : 1);
                    Check.due(at + ": its loads", x.cellTold(54, 0), down ? 20 : 0);
                }
            }
        }
        // Without wet and wind a wall of 1 stands for ever.
        RubbleCity y = new RubbleCity();
        y.wall(0, 0, 1);
        Check.days(y, 2000);
        Check.due("stands", y.wallTold(0, 1), 1);
        Check.due("stands", y.wallTold(0, 0), 1);
    }

    private static void onlyWhoIsThere() {
        RubbleCity x = new RubbleCity();
        for (int c : new int[] {44, 43, 45, 34, 54}) {
            x.person(c, 9, 30, 1);
        }
        // A hand is where its row begins, not where it goes, nor at home.
        x.person(44, 9, 30, 1);
        x.person(0, 9, 30, 1);
        x.person(0, 9, 30, 1);
        Check.row(x, 0, 45, 55, 5);
        Check.row(x, 1, 44, 34, 6);
        Check.row(x, 2, 34, 44, 7);
        x.weather(0, 1);
        x.wall(43, 1, 3);
        x.run(1);
        int[] hurt = {3, 0, 0, 0, 0, 0, 3, 0};
        for (int p = 0; p < hurt.length; p++) {
            Check.due("hurt of " + p, x.personTold(p, 1), hurt[p]);
        }
    }

    /** Dead at 9 or more, not at 8; the dead pass nothing, are given nothing, heal no more, can't move. */
    private static void hurtNine() {
        RubbleCity x = new RubbleCity();
        x.person(0, 9, 30, 1);
        hurtAtHome(x, 2);
        Check.due("hurt 6", x.personTold(0, 4), 0);
        x.run(7);
        Check.due("healed", x.personTold(0, 1), 5);
        Check.due("hurt 8 by this one", x.pull(x.wall(1, 3, 50)), 3);
        Check.due("hurt 8", x.personTold(0, 1), 8);
        Check.due("not dead", x.personTold(0, 4), 0);
        Check.due("passes", x.personTold(0, 5), 8);
        Check.due("dead ones", x.count(8), 0);
        Check.due("hurt 11 by this one", x.pull(x.wall(1, 3, 50)), 103);
        Check.due("hurt 11", x.personTold(0, 1), 11);
        Check.due("dead", x.personTold(0, 4), 1);
        Check.due("dead ones", x.count(8), 1);
        Check.due("given until then", x.personTold(0, 3), 7);
        x.run(14);
        Check.due("not healed", x.personTold(0, 1), 11);
        Check.due("not given", x.personTold(0, 3), 7);
        Check.due("can't move", x.moves(0, 5), STATE);
        RubbleCity y = new RubbleCity();
        y.person(0, 9, 30, 1);
        hurtAtHome(y, 3);
        Check.due("hurt 9", y.personTold(0, 1), 9);
        Check.due("dead at 9", y.personTold(0, 4), 1);
        // On a day: one who dies by (3) is given nothing by (4), and isn't healed by (5).
        RubbleCity z = new RubbleCity();
        z.person(0, 9, 30, 1);
        z.person(9, 9, 30, 1);
        hurtAtHome(z, 2);
        z.run(6);
        z.wall(1, 3, 3);
        z.weather(0, 1);
        z.run(1);
        Check.due("hurt", z.personTold(0, 1), 9);
        Check.due("dead", z.personTold(0, 4), 1);
        Check.due("given ahead of it", z.personTold(0, 3), 6);
        Check.due("the other is given", z.personTold(1, 3), 7);
    }

    private static void cardsAtMostNine() {
        int[] told = {0, 1, 8, 9, 10, 999};
        int[] given = {0, 1, 8, 9, 9, 9};
        for (int i = 0; i < told.length; i++) {
            RubbleCity x = new RubbleCity();
            x.person(0, 1, 1, 1);
            Check.rule(x, "card " + told[i] + ";stay 1;");
            Check.due("says", x.says(0, 1), told[i]);
            x.run(1);
            Check.due("given by card " + told[i], x.personTold(0, 3), given[i]);
            x.run(59);
            Check.due("given in 60 days", x.personTold(0, 3), 60 * given[i]);
        }
    }

    private static void everySeventhDay() {
        RubbleCity x = new RubbleCity();
        x.person(0, 9, 30, 1);
        x.person(9, 9, 30, 1);
        hurtAtHome(x, 1);
        for (int day = 0; day < 35; day++) {
            x.run(1);
            int healed = (day + 1) / 7;
            Check.due("hurt behind day " + day, x.personTold(0, 1), Math.max(3 - healed, 0));
            Check.due("never below 0", x.personTold(1, 1), 0);
        }
        // Hurt on such a day by (3), healed by (5) of the same day.
        RubbleCity y = new RubbleCity();
        y.person(0, 9, 30, 1);
        y.run(6);
        y.wall(1, 3, 3);
        y.weather(0, 1);
        y.run(1);
        Check.due("hurt and healed", y.personTold(0, 1), 2);
    }

    private static void theLastDay() {
        RubbleCity x = new RubbleCity();
        x.person(0, 9, 30, 1);
        Check.days(x, 1999);
        Check.due("two days more", x.run(2), -4);
        Check.due("day", x.count(0), 1999);
        Check.due("given", x.personTold(0, 3), 1999);
        Check.due("the last day", x.run(1), 2000);
        Check.due("none behind it", x.run(1), -4);
        Check.due("given", x.personTold(0, 3), 2000);
        // Things can still be told on it.
        Check.due("ruin", x.ruin(0, 0, 9), 0);
        Check.due("paper", x.paper(0, 0, 2000), 0);
        Check.due("owner", x.owner(0, 2000, 2000), 0);
        Check.due("known ahead of it", x.owner(0, 2000, 1999), NONE);
        Check.due("image", x.image(), 2000);
        Check.due("back", x.back(), 2000);
    }

    /** Rows, rails and walls go by their numbers, not in the order in which they were told. */
    private static void byNumbers() {
        RubbleCity x = new RubbleCity();
        x.ruin(0, 0, 9);
        x.person(50, 9, 30, 1);
        x.person(50, 9, 30, 1);
        x.person(50, 9, 30, 1);
        Check.row(x, 2, 0, 1, 0);
        Check.row(x, 1, 1, 2, 1);
        Check.row(x, 3, 1, 2, 2);
        Check.rail(x, 2, 1, 2, 3);
        Check.rail(x, 0, 1, 3, 4);
        x.run(1);
        Check.due("row 1 was ahead of row 2", x.rowTold(1, 1), 0);
        Check.due("row 2", x.rowTold(2, 1), 9);
        Check.due("row 3 was behind it", x.rowTold(3, 1), 9);
        Check.due("rail 2 behind the rows", x.railTold(2, 1), 9);
        Check.due("rail 0 ahead of rail 2", x.railTold(0, 1), 0);
        x.run(1);
        Check.due("rail 0 a day later", x.railTold(0, 1), 9);
        // Wall 0 hurts a hand, which is at home then, where wall 1 falls; wall 2 falls where it worked.
        RubbleCity y = new RubbleCity();
        y.person(0, 3, 30, 1);
        Check.row(y, 0, 44, 45, 0);
        y.weather(0, 9);
        y.wall(43, 1, 1);
        y.wall(1, 3, 1);
        y.wall(43, 1, 1);
        y.run(1);
        Check.due("hurt by two of three", y.personTold(0, 1), 6);
    }
}
