/** Promises 1 to 10: a new object, and what is told of the city. */
public final class CityTest {
    private static final int NONE = -1, BAD = -2, STATE = -3, FULL = -4;

    public static void main(String[] args) {
        newObject();
        ruin();
        person();
        moves();
        wall();
        weather();
        tip();
        row();
        rowRefusals();
        rowHands();
        rail();
        railMoves();
        room();
        Check.end();
    }

    private static void newObject() {
        RubbleCity x = new RubbleCity();
        for (int what = 0; what < 14; what++) {
            Check.due("new: count " + what, x.count(what), what == 10 ? -1 : 0);
        }
        for (int c = 0; c < 100; c++) {
            Check.due("new: loads", x.cellTold(c, 0), 0);
            Check.due("new: ruin", x.cellTold(c, 1), -5);
            Check.due("new: weak", x.cellTold(c, 2), 3);
        }
        Check.due("new: weather", x.weather(0, 0), 0);
        Check.due("new: tip", x.tip(-1), -1);
        Check.due("new: back", x.back(), STATE);
        Check.due("new: force", x.force(-1), -1);
        for (int s = 0; s < 4; s++) {
            Check.due("new: sheet " + s, x.cell(s, 0, 0), -11);
        }
        // Two objects share nothing.
        RubbleCity y = new RubbleCity();
        x.ruin(5, 3, 77);
        x.person(1, 1, 1, 1);
        Check.due("other object's loads", y.cellTold(5, 0), 0);
        Check.due("other object's people", y.count(7), 0);
    }

    private static void ruin() {
        RubbleCity x = new RubbleCity();
        Check.due("ruin cell -1, all bad", x.ruin(-1, 6, -1), NONE);
        Check.due("ruin cell 100", x.ruin(100, 0, 0), NONE);
        Check.due("ruin kind -1", x.ruin(0, -1, 0), BAD);
        Check.due("ruin kind 6", x.ruin(0, 6, 0), BAD);
        Check.due("ruin loads -1", x.ruin(0, 0, -1), BAD);
        Check.due("ruin loads 10000", x.ruin(0, 0, 10000), BAD);
        Check.due("refused ruin", x.cellTold(0, 1), -5);
        Check.due("ruin", x.ruin(99, 5, 9999), 0);
        Check.due("ruin's loads", x.cellTold(99, 0), 9999);
        Check.due("ruin's kind", x.cellTold(99, 1), 5);
        Check.due("ruin's weak", x.cellTold(99, 2), 6);
        Check.due("ruin again", x.ruin(99, 0, 0), 9999);
        Check.due("ruin's loads again", x.cellTold(99, 0), 0);
        Check.due("ruin's kind again", x.cellTold(99, 1), 0);
        Check.due("all loads", x.count(1), 0);
    }

    private static void person() {
        RubbleCity x = new RubbleCity();
        Check.due("person cell, all bad", x.person(100, 0, -1, 10), NONE);
        Check.due("person cell -1", x.person(-1, 1, 1, 1), NONE);
        Check.due("person strong 0", x.person(0, 0, 0, 0), BAD);
        Check.due("person strong 10", x.person(0, 10, 0, 0), BAD);
        Check.due("person age -1", x.person(0, 1, -1, 0), BAD);
        Check.due("person age 100", x.person(0, 1, 100, 0), BAD);
        Check.due("person kin -1", x.person(0, 1, 0, -1), BAD);
        Check.due("person kin 10", x.person(0, 1, 0, 10), BAD);
        Check.due("refused people", x.count(7), 0);
        Check.due("person", x.person(99, 9, 99, 9), 0);
        Check.due("person", x.person(0, 1, 0, 0), 1);
        int[] first = {99, 0, 0, 0, 0, 72, 99, BAD};
        for (int what = 0; what < first.length; what++) {
            Check.due("first person " + what, x.personTold(0, what), first[what]);
        }
        for (int p = 2; p < 24; p++) {
            Check.due("person", x.person(p, 1, 0, 0), p);
        }
        Check.due("25th person", x.person(0, 1, 0, 0), FULL);
        Check.due("25th person, cell", x.person(100, 1, 0, 0), NONE);
        Check.due("25th person, strong", x.person(0, 0, 0, 0), BAD);
        Check.due("people", x.count(7), 24);
    }

    private static void moves() {
        RubbleCity x = new RubbleCity();
        x.person(3, 1, 1, 1);
        Check.due("moves nobody", x.moves(1, 0), NONE);
        Check.due("moves -1", x.moves(-1, 0), NONE);
        Check.due("moves nowhere", x.moves(0, -1), NONE);
        Check.due("moves to 100", x.moves(0, 100), NONE);
        Check.due("home stays", x.personTold(0, 0), 3);
        Check.due("moves", x.moves(0, 8), 3);
        Check.due("home", x.personTold(0, 0), 8);
        Check.due("by day", x.personTold(0, 6), 8);
        kill(x, 8);
        Check.due("dead", x.personTold(0, 4), 1);
        Check.due("dead moves", x.moves(0, 9), STATE);
        Check.due("dead moves nowhere", x.moves(0, 100), NONE);
        Check.due("dead one's home", x.personTold(0, 0), 8);
    }

    /** Lets three walls fall on a cell that has one to its left. */
    private static void kill(RubbleCity x, int cell) {
        for (int i = 0; i < 3; i++) {
            x.pull(x.wall(cell - 1, 1, 50));
        }
    }

    private static void wall() {
        RubbleCity x = new RubbleCity();
        Check.due("wall cell, all bad", x.wall(-1, 4, 0), NONE);
        Check.due("wall cell 100", x.wall(100, 0, 1), NONE);
        Check.due("wall side -1", x.wall(0, -1, 1), BAD);
        Check.due("wall side 4", x.wall(0, 4, 1), BAD);
        Check.due("wall stands 0 and no cell", x.wall(0, 2, 0), BAD);
        Check.due("wall stands 100", x.wall(0, 0, 100), BAD);
        Check.due("wall side 0 of the last line", x.wall(90, 0, 1), STATE);
        Check.due("wall side 1 of the last column", x.wall(19, 1, 1), STATE);
        Check.due("wall side 2 of the first line", x.wall(9, 2, 1), STATE);
        Check.due("wall side 3 of the first column", x.wall(20, 3, 1), STATE);
        Check.due("refused walls", x.count(13), 0);
        int[] to = {54, 45, 34, 43};
        for (int side = 0; side < 4; side++) {
            Check.due("wall", x.wall(44, side, 99 - side), side);
            Check.due("wall stands", x.wallTold(side, 0), 1);
            Check.due("wall's stands", x.wallTold(side, 1), 99 - side);
            Check.due("wall falls to", x.wallTold(side, 2), to[side]);
        }
        for (int k = 4; k < 16; k++) {
            Check.due("wall", x.wall(0, 0, 1), k);
        }
        Check.due("17th wall", x.wall(0, 0, 1), FULL);
        Check.due("17th wall, no cell", x.wall(0, 2, 1), STATE);
        Check.due("walls", x.count(13), 16);
    }

    private static void weather() {
        RubbleCity x = new RubbleCity();
        Check.due("weather", x.weather(9, 8), 0);
        Check.due("weather wet -1", x.weather(-1, 0), BAD);
        Check.due("weather wet 10", x.weather(10, 0), BAD);
        Check.due("weather wind -1", x.weather(0, -1), BAD);
        Check.due("weather wind 10", x.weather(0, 10), BAD);
        Check.due("weather after refusals", x.weather(0, 9), 98);
        Check.due("weather", x.weather(1, 0), 9);
    }

    private static void tip() {
        RubbleCity x = new RubbleCity();
        Check.due("tip -2", x.tip(-2), -5);
        Check.due("tip 100", x.tip(100), -5);
        Check.due("tip", x.tip(99), -1);
        Check.due("tip -2 later", x.tip(-2), -5);
        Check.due("tip again", x.tip(0), 99);
        Check.due("tip none", x.tip(-1), 0);
        Check.due("tip none again", x.tip(-1), -1);

        // What comes to THE TIP is TIPPED; what lies there or falls there lies there.
        x.ruin(0, 0, 100);
        x.ruin(1, 0, 7);
        x.tip(1);
        x.person(50, 5, 30, 1);
        Check.row(x, 0, 0, 1, 0);
        x.run(1);
        Check.due("tipped", x.count(2), 40 - 16);
        Check.due("loads on the tip", x.cellTold(1, 0), 7);
        x.pull(x.wall(2, 3, 5));
        Check.due("loads of a wall on the tip", x.cellTold(1, 0), 27);
        Check.due("tipped by a wall", x.count(2), 24);
        x.run(1);
        Check.due("tipped more", x.count(2), 48);
        x.tip(-1);
        x.run(1);
        Check.due("not tipped any more", x.count(2), 48);
        Check.due("loads where the tip was", x.cellTold(1, 0), 27 + 12);
    }

    private static RubbleCity cityOfTen() {
        RubbleCity x = new RubbleCity();
        for (int p = 0; p < 10; p++) {
            x.person(10 + p, 5, 30, p);
        }
        return x;
    }

    private static void row() {
        RubbleCity x = cityOfTen();
        Check.due("row of 8", Check.row(x, 3, 0, 10, 0, 1, 2, 3, 4, 5, 6, 7), 8);
        Check.due("its hands", x.rowTold(3, 0), 8);
        Check.due("row of 9", Check.row(x, 2, 0, 10, 0, 1, 2, 3, 4, 5, 6, 7, 8), BAD);
        Check.due("row of 0", Check.row(x, 3, 0, 10), 0);
        Check.due("its hands", x.rowTold(3, 0), 0);
        Check.due("hands are free", Check.row(x, 0, 0, 1, 7, 0), 2);
        Check.due("other hands of it", Check.row(x, 0, 0, 1, 0, 8), 2);
        Check.due("one is free", Check.row(x, 1, 0, 1, 7), 1);
        Check.writeSort(x, 2, Check.BYTES, 3, 4);
        Check.due("row by bytes", x.row(2, 2, 99, 98), 2);
        Check.due("by day", x.personTold(3, 6), 99);
        for (int side : new int[] {54, 45, 34, 43}) {
            Check.due("row from 44 to " + side, Check.row(x, 3, 44, side, 9), 1);
        }
        Check.due("row over the edge", Check.row(x, 3, 9, 10, 9), BAD);
        Check.due("row to itself", Check.row(x, 3, 9, 9, 9), BAD);
        Check.due("row across", Check.row(x, 3, 44, 55, 9), BAD);
    }

    private static void rowRefusals() {
        RubbleCity x = cityOfTen();
        Check.row(x, 0, 0, 1, 0, 1);
        Check.due("row -1", x.row(-1, 0, 0, 1), NONE);
        Check.due("row 4", x.row(4, 0, 0, 1), NONE);
        Check.due("row's sheet -1", x.row(0, -1, 0, 1), NONE);
        Check.due("row's sheet 4", x.row(0, 4, 0, 1), NONE);
        Check.due("row from -1, sheet missing", x.row(0, 0, -1, 1), NONE);
        Check.due("row to 100, sheet missing", x.row(0, 0, 99, 100), NONE);
        Check.due("sheet missing, not beside", x.row(0, 0, 0, 2), -11);
        Check.due("no such person", Check.row(x, 1, 0, 1, 10), BAD);
        Check.due("person -1", Check.row(x, 1, 0, 1, -1), BAD);
        Check.due("twice", Check.row(x, 1, 0, 1, 2, 2), BAD);
        Check.due("in another row", Check.row(x, 1, 0, 1, 2, 1), STATE);
        Check.due("another row ahead of nobody", Check.row(x, 1, 0, 1, 2, 1, 10), STATE);
        Check.due("nobody ahead of another row", Check.row(x, 1, 0, 1, 2, 10, 1), BAD);
        Check.due("twice ahead of another row", Check.row(x, 1, 0, 1, 2, 2, 1), BAD);
        Check.due("not beside ahead of another row", Check.row(x, 1, 0, 2, 1), BAD);
        Check.due("size ahead of another row", Check.row(x, 1, 0, 1, 1, 2, 3, 4, 5, 6, 7, 8, 9), BAD);
        kill(x, 12);
        Check.due("dead", Check.row(x, 1, 0, 1, 2), BAD);
        Check.due("refused rows", x.rowTold(1, 0), 0);
        Check.due("row 0", x.rowTold(0, 0), 2);
        Check.due("person 2 is still in no row", x.personTold(3, 6), 13);
        // One who died in a row stays a hand of it, and can't be told again.
        x.moves(0, 15);
        Check.rule(x, "stay 1;");
        kill(x, 15);
        Check.due("dead hand", x.personTold(0, 4), 1);
        Check.due("hands with a dead one", x.rowTold(0, 0), 2);
        Check.due("dead hand again", Check.row(x, 0, 0, 1, 1, 0), BAD);
        Check.due("dead hand of another row", Check.row(x, 1, 0, 1, 0), BAD);
    }

    private static void rowHands() {
        RubbleCity x = new RubbleCity();
        x.ruin(11, 2, 100);
        x.person(50, 9, 30, 1);
        x.person(51, 3, 30, 1);
        x.person(52, 3, 30, 1);
        Check.row(x, 2, 11, 12, 0, 2, 1);
        x.run(1);
        Check.due("loads left", x.rowTold(2, 1), 24);
        Check.due("stuck at the first of the weakest", x.rowTold(2, 2), 2);
        Check.due("loads", x.cellTold(11, 0), 76);
        Check.due("loads beside", x.cellTold(12, 0), 16);
        Check.due("dust", x.count(3), 8);
        Check.due("bricks", x.count(4), 40);
        Check.due("beams", x.count(5), 2);
        Check.due("iron", x.count(6), 10);
        Check.due("worked", x.personTold(0, 2), 8);
        Check.due("worked", x.personTold(1, 2), 8);
        x.run(1);
        Check.due("more bricks", x.count(4), 80);
        Check.due("more beams", x.count(5), 4);
        Check.due("more iron", x.count(6), 20);
        Check.due("more dust", x.count(3), 16);
        Check.due("more loads beside", x.cellTold(12, 0), 32);
        // Without a RUIN nothing is kept, but there is dust; fewer than ten give neither.
        Check.row(x, 2, 12, 13, 0);
        x.run(1);
        Check.due("as many as there are", x.rowTold(2, 1), 32);
        Check.due("dust without a ruin", x.count(3), 28);
        Check.due("no bricks without a ruin", x.count(4), 80);
        Check.due("others go on", x.cellTold(13, 0), 20);
        Check.due("not a hand", x.personTold(1, 2), 16);
        x.run(1);
        Check.due("nothing is left", x.rowTold(2, 1), 0);
        Check.due("nothing to work at", x.personTold(0, 2), 24);
        Check.due("stuck all the same", x.rowTold(2, 2), 0);
        x.ruin(12, 1, 9);
        x.run(1);
        Check.due("nine give no dust", x.count(3), 28);
        Check.due("nine give no bricks", x.count(4), 80);
        Check.due("nine come all", x.cellTold(13, 0), 29);
        Check.due("worked at nine", x.personTold(0, 2), 32);
    }

    private static void rail() {
        RubbleCity x = new RubbleCity();
        Check.due("rail -1", x.rail(-1, 0, 1), NONE);
        Check.due("rail 3", x.rail(3, 0, 1), NONE);
        Check.due("rail's sheet 4", x.rail(0, 4, 21), NONE);
        Check.due("rail's sheet -1", x.rail(0, -1, 21), NONE);
        Check.due("rail's sheet missing", x.rail(0, 0, 21), -11);
        Check.due("rail of 1", Check.rail(x, 0, 1, 5), BAD);
        Check.due("rail of 13", Check.rail(x, 0, 1, 0, 1, 2, 3, 4, 5, 6, 7, 8, 9, 19, 18, 17), BAD);
        Check.due("rail of 12", Check.rail(x, 0, 1, 0, 1, 2, 3, 4, 5, 6, 7, 8, 9, 19, 18), 12);
        Check.due("its cells", x.railTold(0, 0), 12);
        Check.due("cars -1", Check.rail(x, 0, -1, 0, 1), BAD);
        Check.due("cars 21", Check.rail(x, 0, 21, 0, 1), BAD);
        Check.due("cars 21 without a way", Check.rail(x, 0, 21), BAD);
        Check.due("no way", Check.rail(x, 0, 1, 0, 2), BAD);
        Check.due("no way at its end", Check.rail(x, 0, 1, 0, 1, 12), BAD);
        Check.due("no cell", Check.rail(x, 0, 1, 0, -1), BAD);
        Check.due("no cell", Check.rail(x, 0, 1, 100, 99), BAD);
        Check.due("no cell", Check.rail(x, 0, 1, 95, 105), BAD);
        Check.due("no cell at first", Check.rail(x, 0, 1, 100, 90), BAD);
        Check.due("over the edge", Check.rail(x, 0, 1, 9, 10), BAD);
        Check.due("its cells after refusals", x.railTold(0, 0), 12);
        Check.due("none", Check.rail(x, 0, 20), 0);
        Check.due("its cells", x.railTold(0, 0), 0);
        Check.due("there and back", Check.rail(x, 2, 0, 99, 98, 99), 3);
    }

    private static void railMoves() {
        RubbleCity x = new RubbleCity();
        x.ruin(0, 0, 1000);
        Check.rail(x, 0, 7, 0, 1, 2, 12, 11);
        Check.rail(x, 1, 1, 11, 10);
        x.run(1);
        Check.due("60 * 7 / 4", x.railTold(0, 1), 105);
        Check.due("the next rail goes behind it", x.railTold(1, 1), 60);
        Check.due("first cell", x.cellTold(0, 0), 895);
        Check.due("between", x.cellTold(1, 0), 0);
        Check.due("last cell", x.cellTold(11, 0), 45);
        Check.due("last cell of the other", x.cellTold(10, 0), 60);
        Check.due("no dust", x.count(3), 0);
        x.tip(11);
        Check.rail(x, 0, 20, 0, 1, 11);
        x.run(1);
        Check.due("60 * 20 / 2", x.railTold(0, 1), 600);
        Check.due("tipped", x.count(2), 600);
        Check.due("as many as there are", x.railTold(1, 1), 45);
        x.run(1);
        Check.due("the rest", x.railTold(0, 1), 295);
        Check.due("nothing there", x.railTold(1, 1), 0);
        Check.rail(x, 0, 0);
        x.ruin(0, 0, 50);
        x.run(1);
        Check.due("no way", x.railTold(0, 1), 0);
        // 60 * 13 / 11 is cut.
        Check.rail(x, 2, 13, 20, 21, 22, 23, 24, 25, 26, 27, 28, 29, 39, 49);
        x.ruin(20, 0, 100);
        x.run(1);
        Check.due("cut", x.railTold(2, 1), 70);
        Check.rail(x, 2, 0, 20, 21);
        x.run(1);
        Check.due("without cars", x.railTold(2, 1), 0);
    }

    private static void room() {
        RubbleCity x = new RubbleCity();
        Check.due("room cell, all bad", x.room(100, -1, -1, 0), NONE);
        Check.due("room cell -1", x.room(-1, 0, 0, 1), NONE);
        Check.due("bricks -1", x.room(0, -1, 0, 1), BAD);
        Check.due("bricks 10000", x.room(0, 10000, 0, 1), BAD);
        Check.due("beams -1", x.room(0, 0, -1, 1), BAD);
        Check.due("beams 1000", x.room(0, 0, 1000, 1), BAD);
        Check.due("worth 0", x.room(0, 0, 0, 0), BAD);
        Check.due("worth 100", x.room(0, 0, 0, 100), BAD);
        Check.due("refused rooms", x.count(12), 0);
        Check.due("room", x.room(99, 9999, 999, 99), 0);
        for (int r = 1; r < 12; r++) {
            Check.due("room", x.room(r, 0, 0, r), r);
        }
        Check.due("13th room", x.room(0, 0, 0, 1), FULL);
        Check.due("13th room, worth", x.room(0, 0, 0, 0), BAD);
        Check.due("rooms", x.count(12), 12);
        Check.due("its cell", x.roomTold(0, 0), 99);
        Check.due("not warm", x.roomTold(0, 1), 0);
        Check.due("its worth", x.roomTold(0, 2), 99);
    }
}
