import java.util.ArrayList;
import java.util.List;
import java.util.Random;

/** Promises 23 to 29: pulling a wall, the order of pulls, mends, rooms. */
public final class WallsRoomsTest {
    private static final int NONE = -1, BAD = -2, STATE = -3;

    public static void main(String[] args) {
        pull();
        pulls();
        pullsRefusals();
        pullsAsPlayed();
        mends();
        mendsAsTried();
        mend();
        roomTold();
        Check.end();
    }

    private static void pull() {
        RubbleCity x = new RubbleCity();
        x.person(45, 9, 1, 1);
        x.person(45, 9, 1, 1);
        x.person(46, 9, 1, 1);
        x.person(0, 9, 1, 1);
        for (int k = 0; k < 5; k++) {
            x.wall(44, 1, 50);
        }
        Check.row(x, 0, 45, 46, 3);
        Check.due("pull -1", x.pull(-1), NONE);
        Check.due("pull 5", x.pull(5), NONE);
        Check.due("pull", x.pull(0), 9);
        Check.due("down", x.wallTold(0, 0), 0);
        Check.due("stands as it did", x.wallTold(0, 1), 50);
        Check.due("loads", x.cellTold(45, 0), 20);
        Check.due("hurt", x.personTold(1, 1), 3);
        Check.due("not there", x.personTold(2, 1), 0);
        Check.due("hurt at work", x.personTold(3, 1), 3);
        Check.due("pull again", x.pull(0), STATE);
        Check.due("loads", x.cellTold(45, 0), 20);
        x.moves(1, 46);
        Check.due("pull", x.pull(4), 6);
        Check.due("pull", x.pull(1), 206);
        Check.due("dead", x.count(8), 2);
        Check.due("day", x.count(0), 0);
        // The dead who lie there are hurt more, but don't die again; the dead hand lies at home.
        Check.due("pull", x.pull(2), 3);
        Check.due("hurt of the dead", x.personTold(0, 1), 12);
        Check.due("the dead hand", x.personTold(3, 1), 9);
        x.moves(2, 45);
        Check.due("pull", x.pull(3), 6);
        Check.due("loads", x.cellTold(45, 0), 100);
        Check.due("dead", x.count(8), 2);
    }

    private static void pulls() {
        RubbleCity x = new RubbleCity();
        Check.due("nothing found yet", x.pullTold(0), NONE);
        x.ruin(0, 3, 0);
        // With wet 9 these fall behind 1, 2, 3 and 50 days.
        x.wall(0, 0, 6);
        x.wall(0, 0, 12);
        x.wall(0, 0, 18);
        x.wall(1, 0, 99);
        x.weather(9, 0);
        Check.due("pulls", Check.pulls(x, 3, 2, 1, 0), 0);
        order(x, 0, 1, 2, 3);
        Check.due("not a fifth", x.pullTold(4), NONE);
        Check.due("not -1", x.pullTold(-1), NONE);
        Check.due("nothing falls", x.wallTold(0, 1), 6);
        Check.due("nothing lies there", x.count(1), 0);
        Check.due("one", Check.pulls(x, 3), 0);
        order(x, 3);
        Check.due("not a second", x.pullTold(1), NONE);
        Check.due("by places", Check.pulls(x, 3, 1), 0);
        order(x, 3, 1);
        x.weather(9, 9);
        Check.due("all but 3 fall on the first day", Check.pulls(x, 2, 3, 0, 1), 2);
        order(x, 2, 3, 0, 1);
        // One is saved at most; the first order by places saves the first one.
        Check.due("all fall on the first day", Check.pulls(x, 2, 1, 0), 2);
        order(x, 2, 1, 0);
        x.pull(1);
        Check.due("refused", Check.pulls(x, 1), BAD);
        order(x, 2, 1, 0);
        RubbleCity y = new RubbleCity();
        for (int k = 0; k < 6; k++) {
            y.wall(k, 0, 5);
        }
        y.weather(0, 2);
        Check.due("late but for the first", Check.pulls(y, 5, 4, 3, 2, 1, 0), 5);
        order(y, 5, 4, 3, 2, 1, 0);
    }

    private static void order(RubbleCity x, int... walls) {
        for (int i = 0; i < walls.length; i++) {
            Check.due("order of pulls " + i, x.pullTold(i), walls[i]);
        }
    }

    private static void pullsRefusals() {
        RubbleCity x = new RubbleCity();
        for (int k = 0; k < 8; k++) {
            x.wall(0, 0, 50);
        }
        x.pull(7);
        Check.due("sheet -1", x.pulls(-1), NONE);
        Check.due("sheet 4", x.pulls(4), NONE);
        Check.due("sheet missing", x.pulls(0), -11);
        Check.due("of none", Check.pulls(x), BAD);
        Check.due("of 7", Check.pulls(x, 0, 1, 2, 3, 4, 5, 6), BAD);
        Check.due("of 6", Check.pulls(x, 0, 1, 2, 3, 4, 5), 0);
        Check.due("no wall", Check.pulls(x, 0, 8), BAD);
        Check.due("no wall", Check.pulls(x, -1), BAD);
        Check.due("down", Check.pulls(x, 0, 7), BAD);
        Check.due("twice", Check.pulls(x, 0, 1, 0), BAD);
        Check.due("found last", x.pullTold(5), 5);
        Check.writeSort(x, 0, Check.SHORTS, 6);
        Check.due("by shorts", x.pulls(0), 0);
        Check.due("found last", x.pullTold(0), 6);
    }

    /** Each order is played out on days, and the first with the fewest late ones is due. */
    private static void pullsAsPlayed() {
        Random random = new Random(24);
        for (int i = 0; i < 150; i++) {
            RubbleCity x = new RubbleCity();
            int wet = random.nextInt(10);
            int wind = random.nextInt(4);
            int n = 1 + random.nextInt(6);
            int[] stands = new int[n];
            int[] wear = new int[n];
            int[] walls = new int[n];
            for (int k = 0; k < n; k++) {
                int kind = random.nextInt(7) - 1;
                if (kind >= 0) {
                    x.ruin(k, kind, 0);
                }
                stands[k] = 1 + random.nextInt(40);
                wear[k] = wet * x.cellTold(k, 2) / 10;
                walls[k] = x.wall(k, 0, stands[k]);
            }
            x.weather(wet, wind);
            shuffle(walls, random);
            List<int[]> orders = new ArrayList<>();
            collect(new int[0], walls, orders);
            int fewest = 7;
            int[] best = null;
            for (int[] order : orders) {
                int late = played(order, stands, wear, wind);
                if (late < fewest) {
                    fewest = late;
                    best = order;
                }
            }
            Check.due("late", Check.pulls(x, walls), fewest);
            order(x, best);
        }
    }

    private static void shuffle(int[] walls, Random random) {
        for (int i = walls.length - 1; i > 0; i--) {
            int j = random.nextInt(i + 1);
            int kept = walls[i];
            walls[i] = walls[j];
            walls[j] = kept;
        }
    }

    private static void collect(int[] ahead, int[] left, List<int[]> orders) {
        if (left.length == 0) {
            orders.add(ahead);
        }
        for (int i = 0; i < left.length; i++) {
            int[] longer = java.util.Arrays.copyOf(ahead, ahead.length + 1);
            longer[ahead.length] = left[i];
            int[] fewer = new int[left.length - 1];
            System.arraycopy(left, 0, fewer, 0, i);
            System.arraycopy(left, i + 1, fewer, i, fewer.length - i);
            collect(longer, fewer, orders);
        }
    }

    private static int played(int[] order, int[] stands, int[] wear, int wind) {
        int[] standing = stands.clone();
        boolean[] down = new boolean[stands.length];
        int late = 0;
        for (int wall : order) {
            late += down[wall] ? 1 : 0;
            down[wall] = true;
            for (int k = 0; k < standing.length; k++) {
                if (!down[k]) {
                    standing[k] -= wear[k];
                    down[k] = standing[k] <= 3 * wind;
                }
            }
        }
        return late;
    }

    /** Bricks and beams by tens of a tenement: 70 and 4 each. */
    private static void earn(RubbleCity x, int tens) {
        x.person(0, 9, 1, 1);
        Check.row(x, 0, 0, 1, 0);
        for (int left = tens; left > 0; left -= 7) {
            x.ruin(0, 3, 10 * Math.min(left, 7));
            x.run(1);
        }
    }

    private static void mends() {
        RubbleCity x = new RubbleCity();
        Check.due("found at first", x.mendTold(), 0);
        Check.due("mends -1", x.mends(-1), BAD);
        Check.due("mends 13", x.mends(13), BAD);
        Check.due("mends of none", x.mends(12), 0);
        earn(x, 10);
        x.room(0, 300, 5, 40);
        x.room(0, 401, 5, 40);
        x.room(0, 400, 5, 40);
        x.room(0, 0, 36, 79);
        Check.due("bricks", x.count(4), 700);
        Check.due("beams", x.count(5), 40);
        Check.due("the most worth", x.mends(12), 80);
        Check.due("rooms 0 and 2, all bricks", x.mendTold(), 5);
        Check.due("one at most", x.mends(1), 79);
        Check.due("room 3", x.mendTold(), 8);
        Check.due("refused", x.mends(13), BAD);
        Check.due("found last", x.mendTold(), 8);
        Check.due("none at most", x.mends(0), 0);
        Check.due("none", x.mendTold(), 0);
        x.room(0, 0, 0, 1);
        Check.due("of like ones", x.mends(2), 80);
        Check.due("the least as bits", x.mendTold(), 5);
        Check.due("three", x.mends(3), 81);
        Check.due("with room 4", x.mendTold(), 21);
        Check.due("mend", x.mend(4), 700);
        Check.due("without the warm one", x.mends(3), 80);
        Check.due("rooms 0 and 2", x.mendTold(), 5);
        Check.due("nothing is spent", x.count(4), 700);
    }

    private static void mendsAsTried() {
        Random random = new Random(26);
        for (int i = 0; i < 60; i++) {
            RubbleCity x = new RubbleCity();
            earn(x, 1 + random.nextInt(14));
            int n = random.nextInt(13);
            int[] bricks = new int[n];
            int[] beams = new int[n];
            int[] worth = new int[n];
            int warm = 0;
            for (int r = 0; r < n; r++) {
                bricks[r] = random.nextInt(400);
                beams[r] = random.nextInt(20);
                worth[r] = 1 + random.nextInt(i % 2 == 0 ? 99 : 3);
                x.room(r, bricks[r], beams[r], worth[r]);
                if (random.nextInt(6) == 0 && x.mend(r) >= 0) {
                    warm |= 1 << r;
                }
            }
            int most = random.nextInt(13);
            int best = 0;
            int bestWorth = 0;
            for (int set = 0; set < 1 << n; set++) {
                int needBricks = 0;
                int needBeams = 0;
                int sum = 0;
                for (int r = 0; r < n; r++) {
                    if ((set >> r & 1) == 1) {
                        needBricks += bricks[r];
                        needBeams += beams[r];
                        sum += worth[r];
                    }
                }
                boolean can = (set & warm) == 0 && Integer.bitCount(set) <= most
                        && needBricks <= x.count(4) && needBeams <= x.count(5);
                if (can && sum > bestWorth) {
                    best = set;
                    bestWorth = sum;
                }
            }
            Check.due("mends", x.mends(most), bestWorth);
            Check.due("mendTold", x.mendTold(), best);
        }
    }

    private static void mend() {
        RubbleCity x = new RubbleCity();
        earn(x, 1);
        x.room(0, 71, 0, 1);
        x.room(0, 0, 5, 1);
        x.room(0, 30, 3, 1);
        x.room(0, 40, 1, 1);
        x.room(0, 0, 0, 1);
        x.room(0, 1, 0, 1);
        Check.due("mend -1", x.mend(-1), NONE);
        Check.due("mend 6", x.mend(6), NONE);
        Check.due("too few bricks", x.mend(0), -6);
        Check.due("too few beams", x.mend(1), -6);
        Check.due("not warm", x.roomTold(1, 1), 0);
        Check.due("mend", x.mend(2), 40);
        Check.due("beams", x.count(5), 1);
        Check.due("warm", x.roomTold(2, 1), 1);
        Check.due("warm already, too few", x.mend(2), STATE);
        Check.due("mend with all", x.mend(3), 0);
        Check.due("beams", x.count(5), 0);
        Check.due("mend with none", x.mend(4), 0);
        Check.due("too few bricks", x.mend(5), -6);
    }

    private static void roomTold() {
        RubbleCity x = new RubbleCity();
        x.room(17, 0, 0, 33);
        Check.due("room -1, what 3", x.roomTold(-1, 3), NONE);
        Check.due("room 1", x.roomTold(1, 0), NONE);
        Check.due("what -1", x.roomTold(0, -1), BAD);
        Check.due("what 3", x.roomTold(0, 3), BAD);
        Check.due("cell", x.roomTold(0, 0), 17);
        Check.due("not warm", x.roomTold(0, 1), 0);
        Check.due("worth", x.roomTold(0, 2), 33);
        x.mend(0);
        Check.due("warm", x.roomTold(0, 1), 1);
    }
}
