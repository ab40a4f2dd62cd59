import java.util.ArrayList;
import java.util.List;
import java.util.Random;

/** Promises 30 to 33: raids, probes, where the next shell likely lies. */
public final class ShellsTest {
    private static final int NONE = -1, BAD = -2, STATE = -3, FULL = -4;

    public static void main(String[] args) {
        raid();
        sides();
        probe();
        likely();
        next();
        chancesAsCounted();
        Check.end();
    }

    private static void raid() {
        RubbleCity x = new RubbleCity();
        Check.due("raid cell, all bad", x.raid(-1, 4, 0, 0), NONE);
        Check.due("raid cell 100", x.raid(100, 0, 1, 1), NONE);
        Check.due("side -1", x.raid(0, -1, 1, 1), BAD);
        Check.due("side 4", x.raid(0, 4, 1, 1), BAD);
        Check.due("length 0", x.raid(0, 0, 0, 1), BAD);
        Check.due("length 11", x.raid(0, 0, 11, 1), BAD);
        Check.due("shells 0", x.raid(0, 0, 1, 0), BAD);
        Check.due("shells 10", x.raid(0, 0, 1, 10), BAD);
        Check.due("nothing is likely", x.next(), NONE);
        for (int k = 0; k < 8; k++) {
            Check.due("raid", x.raid(k, 0, 10, 9), k);
        }
        Check.due("9th raid", x.raid(0, 0, 1, 1), FULL);
        Check.due("9th raid, shells", x.raid(0, 0, 1, 10), BAD);
    }

    private static void sides() {
        int[][] over = {{44, 54, 64}, {44, 45, 46}, {44, 34, 24}, {44, 43, 42}};
        int[] beyond = {74, 47, 14, 41};
        for (int side = 0; side < 4; side++) {
            RubbleCity x = new RubbleCity();
            x.raid(44, side, 3, 1);
            for (int c : over[side]) {
                Check.due("over " + c, x.likely(c, 1), 3);
            }
            Check.due("not over " + beyond[side], x.likely(beyond[side], 0), 0);
        }
        // Only the cells that are in the city count.
        int[] corners = {98, 89, 1, 10};
        int[] sides = {0, 1, 2, 3};
        for (int i = 0; i < 4; i++) {
            RubbleCity x = new RubbleCity();
            x.raid(corners[i], sides[i], 5, 1);
            Check.due("edge, above", x.likely(corners[i], 0), 1);
            Check.due("edge, below", x.likely(corners[i], 1), 1);
        }
        RubbleCity y = new RubbleCity();
        y.raid(97, 1, 9, 2);
        Check.due("three cells, above", y.likely(99, 0), 2);
        Check.due("three cells, below", y.likely(99, 1), 3);
    }

    private static void probe() {
        RubbleCity x = new RubbleCity();
        Check.due("probe cell, all bad", x.probe(-1, 10), NONE);
        Check.due("probe cell 100", x.probe(100, 0), NONE);
        Check.due("shells -1", x.probe(0, -1), BAD);
        Check.due("shells 10", x.probe(0, 10), BAD);
        Check.due("more than none", x.probe(0, 1), -6);
        Check.due("none where no raid was", x.probe(0, 0), 0);
        Check.due("it was, bad", x.probe(0, 10), BAD);
        Check.due("it was, more", x.probe(0, 9), STATE);
        x.raid(40, 1, 10, 3);
        x.raid(44, 0, 3, 4);
        x.raid(24, 0, 3, 5);
        Check.due("more than all", x.probe(43, 4), -6);
        Check.due("refused probe", x.likely(43, 1), 10);
        Check.due("first of the first raid", x.probe(44, 5), 7);
        Check.due("nothing left of raid 0", x.likely(45, 0), 0);
        Check.due("two left of raid 1", x.likely(54, 0), 1);
        Check.due("by two cells", x.likely(54, 1), 1);
        Check.due("all of raid 2 by two", x.likely(24, 0), 5);
        Check.due("all of raid 2 by two", x.likely(24, 1), 2);
        Check.due("it was", x.probe(44, 0), STATE);
        Check.due("probed", x.likely(44, 0), 0);
        Check.due("0 by 1", x.likely(44, 1), 1);
        Check.due("more than raid 2 has", x.probe(24, 6), -6);
        Check.due("none found", x.probe(24, 0), 5);
        Check.due("by one cell", x.likely(34, 0), 5);
        Check.due("all found", x.probe(34, 5), 0);
        // A raid that comes later over cells that were probed.
        x.raid(24, 0, 4, 3);
        Check.due("one cell of it is left", x.likely(54, 0), 4);
        Check.due("one cell of it is left", x.likely(54, 1), 1);
        Check.due("of raids 1 and 3", x.probe(54, 4), 1);
    }

    private static void likely() {
        RubbleCity x = new RubbleCity();
        Check.due("cell -1", x.likely(-1, 0), RubbleCity.NO);
        Check.due("cell 100", x.likely(100, 1), RubbleCity.NO);
        Check.due("part -1", x.likely(0, -1), RubbleCity.NO);
        Check.due("part 2", x.likely(0, 2), RubbleCity.NO);
        Check.due("0", x.likely(0, 0), 0);
        Check.due("by 1", x.likely(0, 1), 1);
        x.raid(0, 1, 7, 1);
        x.raid(0, 0, 8, 1);
        x.raid(0, 0, 9, 1);
        Check.due("1/7 + 1/8 + 1/9", x.likely(0, 0), 191);
        Check.due("1/7 + 1/8 + 1/9", x.likely(0, 1), 504);
        Check.due("1/8 + 1/9", x.likely(10, 0), 17);
        Check.due("1/8 + 1/9", x.likely(10, 1), 72);
        x.raid(0, 1, 10, 1);
        Check.due("and 1/10", x.likely(0, 0), 1207);
        Check.due("and 1/10", x.likely(0, 1), 2520);
        x.raid(20, 1, 3, 6);
        Check.due("6/3", x.likely(21, 0), 2);
        Check.due("6/3", x.likely(21, 1), 1);
    }

    private static void next() {
        RubbleCity x = new RubbleCity();
        Check.due("none", x.next(), NONE);
        x.raid(77, 3, 3, 3);
        Check.due("of like ones the least", x.next(), 75);
        x.raid(99, 0, 1, 1);
        Check.due("1 as well", x.next(), 75);
        x.raid(99, 3, 2, 1);
        Check.due("3/2", x.next(), 99);
        x.probe(99, 2);
        Check.due("98 has none", x.next(), 75);
        x.probe(75, 3);
        Check.due("none left", x.next(), NONE);
    }

    private static final class Raid {
        final List<Integer> cells = new ArrayList<>();
        int left;
    }

    /** The sums of fractions are made anew, each raid's cells counted one by one. */
    private static void chancesAsCounted() {
        Random random = new Random(32);
        int[] dx = {0, 1, 0, -1};
        int[] dy = {1, 0, -1, 0};
        for (int i = 0; i < 60; i++) {
            RubbleCity x = new RubbleCity();
            List<Raid> raids = new ArrayList<>();
            boolean[] probed = new boolean[100];
            for (int step = 0; step < 30; step++) {
                if (random.nextInt(3) == 0 && raids.size() < 8) {
                    Raid raid = new Raid();
                    int from = random.nextInt(100);
                    int side = random.nextInt(4);
                    int length = 1 + random.nextInt(10);
                    raid.left = 1 + random.nextInt(9);
                    for (int d = 0; d < length; d++) {
                        int cx = from % 10 + d * dx[side];
                        int cy = from / 10 + d * dy[side];
                        if (cx >= 0 && cx < 10 && cy >= 0 && cy < 10) {
                            raid.cells.add(10 * cy + cx);
                        }
                    }
                    Check.due("raid", x.raid(from, side, length, raid.left), raids.size());
                    raids.add(raid);
                } else {
                    int cell = random.nextInt(100);
                    if (!raids.isEmpty() && random.nextInt(4) > 0) {
                        List<Integer> some = raids.get(random.nextInt(raids.size())).cells;
                        cell = some.get(random.nextInt(some.size()));
                    }
                    int shells = random.nextInt(4);
                    Check.due("probe", x.probe(cell, shells), probed(raids, probed, cell, shells));
                }
                compare(x, raids, probed);
            }
        }
    }

    private static int probed(List<Raid> raids, boolean[] probed, int cell, int shells) {
        int left = 0;
        for (Raid raid : raids) {
            left += raid.cells.contains(cell) ? raid.left : 0;
        }
        if (probed[cell]) {
            return STATE;
        }
        if (shells > left) {
            return -6;
        }
        probed[cell] = true;
        for (int found = 0; found < shells; found++) {
            for (Raid raid : raids) {
                if (raid.cells.contains(cell) && raid.left > 0) {
                    raid.left--;
                    break;
                }
            }
        }
        return left - shells;
    }

    private static void compare(RubbleCity x, List<Raid> raids, boolean[] probed) {
        int next = NONE;
        long bestAbove = 0;
        long bestBelow = 1;
        for (int c = 0; c < 100; c++) {
            long above = 0;
            long below = 1;
            for (Raid raid : raids) {
                if (!probed[c] && raid.cells.contains(c)) {
                    int open = 0;
                    for (int other : raid.cells) {
                        open += probed[other] ? 0 : 1;
                    }
                    above = above * open + raid.left * below;
                    below = below * open;
                }
            }
            for (long d = 2; d <= 10; d++) {
                while (above % d == 0 && below % d == 0) {
                    above /= d;
                    below /= d;
                }
            }
            Check.due("likely above " + c, x.likely(c, 0), above);
            Check.due("likely below " + c, x.likely(c, 1), above == 0 ? 1 : below);
            if (above * bestBelow > bestAbove * below) {
                next = c;
                bestAbove = above;
                bestBelow = below;
            }
        }
        Check.due("next", x.next(), next);
    }
}
