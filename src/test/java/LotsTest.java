/** Promises 34 to 37: papers, owners, heirs. */
public final class LotsTest {
    private static final int NONE = -1, BAD = -2, STATE = -3, FULL = -4;

    public static void main(String[] args) {
        paper();
        burn();
        ownerByFrom();
        ownerByKnown();
        ownerRefusals();
        heirs();
        Check.end();
    }

    private static RubbleCity cityOfSix() {
        RubbleCity x = new RubbleCity();
        int[] kin = {1, 2, 1, 2, 1, 3};
        for (int p = 0; p < 6; p++) {
            x.person(10 * p, 5, 30, kin[p]);
        }
        return x;
    }

    private static void paper() {
        RubbleCity x = cityOfSix();
        Check.due("lot -1, all bad", x.paper(-1, 6, -1), NONE);
        Check.due("lot 12", x.paper(12, 0, 0), NONE);
        Check.due("person -1", x.paper(0, -1, 0), NONE);
        Check.due("person 6, bad", x.paper(0, 6, 2001), NONE);
        Check.due("from -1", x.paper(0, 0, -1), BAD);
        Check.due("from 2001", x.paper(0, 0, 2001), BAD);
        Check.due("refused papers", x.burn(0), NONE);
        Check.due("paper", x.paper(11, 5, 2000), 0);
        for (int k = 1; k < 24; k++) {
            Check.due("paper", x.paper(0, 0, 0), k);
        }
        Check.due("25th paper", x.paper(0, 0, 0), FULL);
        Check.due("25th paper, from", x.paper(0, 0, 2001), BAD);
        Check.due("owner", x.owner(11, 2000, 0), 5);
        Check.due("day ahead", x.owner(11, 1999, 0), NONE);
        RubbleCity y = cityOfSix();
        kill(y, 0);
        Check.due("a dead one's paper", y.paper(0, 0, 0), 0);
    }

    /** Person p lives at cell 10 p. */
    private static void kill(RubbleCity x, int p) {
        for (int i = 0; i < 3; i++) {
            x.pull(x.wall(10 * p + 1, 3, 50));
        }
        Check.due("dead", x.personTold(p, 4), 1);
    }

    private static void burn() {
        RubbleCity x = cityOfSix();
        x.paper(0, 0, 0);
        x.paper(0, 1, 0);
        Check.due("burn -1", x.burn(-1), NONE);
        Check.due("burn 2", x.burn(2), NONE);
        Check.due("owner", x.owner(0, 0, 0), 1);
        Check.due("burn", x.burn(1), 1);
        Check.due("burn again", x.burn(1), STATE);
        Check.due("owner", x.owner(0, 0, 0), 0);
        Check.due("burn", x.burn(0), 1);
        Check.due("nobody", x.owner(0, 0, 0), NONE);
        x.run(5);
        Check.due("burn again", x.burn(1), STATE);
    }

    private static void ownerByFrom() {
        RubbleCity x = cityOfSix();
        x.paper(3, 0, 10);
        x.paper(3, 1, 30);
        x.paper(3, 2, 20);
        x.paper(3, 3, 20);
        x.paper(4, 4, 0);
        int[] day = {0, 9, 10, 19, 20, 29, 30, 2000};
        int[] due = {NONE, NONE, 0, 0, 3, 3, 1, 1};
        for (int i = 0; i < day.length; i++) {
            Check.due("owner on day " + day[i], x.owner(3, day[i], 0), due[i]);
        }
        Check.due("another lot", x.owner(4, 25, 0), 4);
        Check.due("no papers", x.owner(5, 25, 0), NONE);
        x.burn(3);
        Check.due("told last, burnt", x.owner(3, 25, 0), 2);
        x.burn(2);
        Check.due("both burnt", x.owner(3, 25, 0), 0);
    }

    private static void ownerByKnown() {
        RubbleCity x = cityOfSix();
        x.paper(0, 0, 0);
        x.run(2);
        x.paper(0, 1, 0);
        x.run(2);
        x.burn(1);
        x.run(2);
        x.paper(0, 2, 0);
        x.burn(0);
        x.burn(2);
        int[] due = {0, 0, 1, 1, 0, 0, NONE};
        for (int known = 0; known < due.length; known++) {
            Check.due("owner as known on " + known, x.owner(0, 9, known), due[known]);
        }
        // What was told on a day ahead of an image's is not known until it comes again.
        RubbleCity y = cityOfSix();
        y.image();
        y.run(3);
        y.paper(0, 0, 0);
        y.back();
        Check.due("not known", y.owner(0, 0, 0), NONE);
        y.run(3);
        Check.due("not known then", y.owner(0, 0, 2), NONE);
        Check.due("known", y.owner(0, 0, 3), 0);
    }

    private static void ownerRefusals() {
        RubbleCity x = cityOfSix();
        x.run(3);
        Check.due("lot -1, all bad", x.owner(-1, -1, -1), -5);
        Check.due("lot 12", x.owner(12, 0, 0), -5);
        Check.due("day -1", x.owner(0, -1, 0), BAD);
        Check.due("day 2001", x.owner(0, 2001, 0), BAD);
        Check.due("known -1", x.owner(0, 0, -1), BAD);
        Check.due("known 4", x.owner(0, 0, 4), BAD);
        Check.due("known 3", x.owner(0, 0, 3), NONE);
        Check.due("heirs, lot", x.heirs(12, 0, 0), -5);
        Check.due("heirs, known", x.heirs(0, 0, 4), BAD);
        Check.due("heirs of nobody", x.heirs(0, 2000, 3), NONE);
    }

    private static void heirs() {
        RubbleCity x = cityOfSix();
        x.paper(0, 0, 0);
        x.paper(1, 5, 0);
        Check.due("the owner", x.heirs(0, 0, 0), 1);
        Check.due("the owner", x.heirs(1, 0, 0), 32);
        kill(x, 0);
        Check.due("the owner", x.owner(0, 0, 0), 0);
        Check.due("its kin", x.heirs(0, 0, 0), 4 + 16);
        kill(x, 4);
        Check.due("its kin who aren't dead", x.heirs(0, 0, 0), 4);
        kill(x, 2);
        Check.due("none", x.heirs(0, 0, 0), 0);
        kill(x, 5);
        Check.due("no kin", x.heirs(1, 0, 0), 0);
        // Dead or not as it is now, not as it was known.
        RubbleCity y = cityOfSix();
        y.paper(0, 1, 0);
        y.run(1);
        kill(y, 1);
        Check.due("as it is now", y.heirs(0, 0, 0), 8);
        y.paper(1, 2, 0);
        kill(y, 2);
        Check.due("the first person too", y.heirs(1, 0, 1), 1 + 16);
        RubbleCity z = new RubbleCity();
        for (int p = 0; p < 24; p++) {
            z.person(p, 1, 1, 4);
        }
        z.paper(0, 23, 0);
        Check.due("the last person", z.heirs(0, 0, 0), 1 << 23);
        for (int i = 0; i < 3; i++) {
            z.pull(z.wall(33, 2, 50));
            z.pull(z.wall(24, 3, 50));
        }
        Check.due("dead", z.personTold(23, 4), 1);
        Check.due("all others", z.heirs(0, 0, 0), (1 << 23) - 1);
        // Kin 0 is a kin as any other, not that of people who never came.
        RubbleCity u = new RubbleCity();
        u.person(0, 1, 1, 0);
        u.person(10, 1, 1, 0);
        u.paper(0, 0, 0);
        kill(u, 0);
        Check.due("kin 0", u.heirs(0, 0, 0), 2);
    }
}
