import java.util.Arrays;

/**
 * A city of rubble: loads in cells, ruins, rows of hands, rails, walls, orders, rooms, shells and lots.
 * The public methods look at what they are told and refuse it or pass it on; the classes inside do the rest
 * and rely on what was looked at here.
 */
public final class RubbleCity {
    public static final int NONE = -1, BAD = -2, STATE = -3, FULL = -4;
    public static final long NO = -4611686018427387904L;

    private static final int ABSENT = -5;
    private static final int TOO_FEW = -6;
    private static final int NOTHING_THERE = -11;
    private static final int OUTSIDE = -12;
    private static final int OTHER_SORT = -13;
    private static final int SIZE_BELOW_0 = -14;
    private static final int FAULT_BASE = -100;

    private static final int NOBODY = -1;
    private static final int NOWHERE = -1;

    private static final int CELLS = 100;
    private static final int WIDTH = 10;
    private static final int SIDES = 4;
    private static final int LAST_DAY = 2000;
    private static final int MOST_DAYS = 60;
    private static final int MOST_LOADS = 9999;
    private static final int WEATHERS = 10;
    private static final int PEOPLE = 24;
    private static final int ROWS = 4;
    private static final int HANDS = 8;
    private static final int RAILS = 3;
    private static final int LONGEST_WAY = 12;
    private static final int MOST_CARS = 20;
    private static final int WALLS = 16;
    private static final int MOST_PULLS = 6;
    private static final int ROOMS = 12;
    private static final int RAIDS = 8;
    private static final int LONGEST_RAID = 10;
    private static final int LOTS = 12;
    private static final int PAPERS = 24;
    private static final int SHEETS = 4;
    private static final int SORTS = 3;
    private static final int LONGEST_SHEET = 40;
    private static final int ORDERS = 6;
    private static final int LINES = 8;
    private static final int TESTS = 3;
    private static final int LONGEST_TAPE = 160;

    private static final int WORK = 0, CARD = 1, STAY = 2, KEYS = 3;

    private static final int KINDS = 6;
    private static final int DEPTH_OF_KINDS = 3;
    private static final int NO_RUIN = -1;
    private static final int WEAK_WITHOUT_RUIN = 3;
    private static final int BRICKS = 0, BEAMS = 1, IRON = 2, YIELDS = 3;
    private static final int[] BRICKS_OF = {20, 35, 20, 70, 10, 5};
    private static final int[] BEAMS_OF = {1, 4, 1, 4, 7, 4};
    private static final int[] IRON_OF = {0, 0, 5, 0, 5, 0};
    private static final int[] WEAK_OF = {3, 3, 2, 7, 2, 6};
    private static final int[] KIND_ABOVE = {-1, 0, 0, 1, 2, 1};

    private final City city = new City();
    private final State now = new State();
    private final State aside = new State();
    private final State imaged = new State();
    private boolean hasImage = false;
    private final Tape tape = new Tape();
    private final Order[] orders = new Order[ORDERS];
    private int orderCount = 0;
    private int rule = NONE;
    private final Pulls pulling = new Pulls();
    private final Rooms rooms = new Rooms();
    private final Raids raids = new Raids();
    private final Papers papers = new Papers();
    private final Sheet[] sheets = new Sheet[SHEETS];

    public RubbleCity() {
        for (int o = 0; o < ORDERS; o++) {
            orders[o] = new Order();
        }
        for (int s = 0; s < SHEETS; s++) {
            sheets[s] = new Sheet();
        }
    }

    // ---- the city

    public int ruin(int cell, int kind, int loads) {
        if (!within(cell, CELLS)) {
            return NONE;
        }
        if (!within(kind, KINDS) || !between(loads, 0, MOST_LOADS)) {
            return BAD;
        }
        int before = now.loads[cell];
        city.kinds[cell] = kind;
        now.loads[cell] = loads;
        return before;
    }

    public int person(int cell, int strong, int years, int kins) {
        if (!within(cell, CELLS)) {
            return NONE;
        }
        if (!between(strong, 1, 9) || !between(years, 0, 99) || !between(kins, 0, 9)) {
            return BAD;
        }
        if (city.peopleCount >= PEOPLE) {
            return FULL;
        }
        int p = city.peopleCount;
        city.strong[p] = strong;
        city.age[p] = years;
        city.kin[p] = kins;
        now.home[p] = cell;
        city.peopleCount++;
        return p;
    }

    public int moves(int p, int cell) {
        if (!within(p, city.peopleCount) || !within(cell, CELLS)) {
            return NONE;
        }
        if (now.dead[p]) {
            return STATE;
        }
        int before = now.home[p];
        now.home[p] = cell;
        return before;
    }

    public int wall(int cell, int side, int stands) {
        if (!within(cell, CELLS)) {
            return NONE;
        }
        if (!within(side, SIDES) || !between(stands, 1, 99)) {
            return BAD;
        }
        int to = cellOnSide(cell, side);
        if (to == NOWHERE) {
            return STATE;
        }
        if (city.wallCount >= WALLS) {
            return FULL;
        }
        int k = city.wallCount;
        city.wallCell[k] = cell;
        city.wallFallsTo[k] = to;
        now.stands[k] = stands;
        now.up[k] = true;
        city.wallCount++;
        return k;
    }

    public int weather(int wet, int wind) {
        if (!within(wet, WEATHERS) || !within(wind, WEATHERS)) {
            return BAD;
        }
        int before = 10 * now.wet + now.wind;
        now.wet = wet;
        now.wind = wind;
        return before;
    }

    public int tip(int cell) {
        if (cell != NOWHERE && !within(cell, CELLS)) {
            return ABSENT;
        }
        int before = city.tip;
        city.tip = cell;
        return before;
    }

    public int row(int r, int sheet, int from, int to) {
        if (!within(r, ROWS) || !within(sheet, SHEETS) || !within(from, CELLS) || !within(to, CELLS)) {
            return NONE;
        }
        Sheet hands = sheets[sheet];
        if (hands.isMissing()) {
            return NOTHING_THERE;
        }
        if (hands.size > HANDS || !areBeside(from, to)) {
            return BAD;
        }
        int refusal = refusalOfHands(r, hands);
        if (refusal < 0) {
            return refusal;
        }
        city.setHands(r, hands);
        city.rows[r].from = from;
        city.rows[r].to = to;
        return hands.size;
    }

    private int refusalOfHands(int r, Sheet hands) {
        for (int i = 0; i < hands.size; i++) {
            int p = hands.numbers[i];
            if (!within(p, city.peopleCount) || now.dead[p] || hands.hasAheadOf(i, p)) {
                return BAD;
            }
            if (city.rowOf[p] != NOWHERE && city.rowOf[p] != r) {
                return STATE;
            }
        }
        return 0;
    }

    public int rail(int r, int sheet, int cars) {
        if (!within(r, RAILS) || !within(sheet, SHEETS)) {
            return NONE;
        }
        Sheet way = sheets[sheet];
        if (way.isMissing()) {
            return NOTHING_THERE;
        }
        if (way.size == 1 || way.size > LONGEST_WAY || !between(cars, 0, MOST_CARS) || !isWay(way)) {
            return BAD;
        }
        Rail rail = city.rails[r];
        rail.size = way.size;
        rail.cars = cars;
        if (way.size > 0) {
            rail.first = way.numbers[0];
            rail.last = way.numbers[way.size - 1];
        }
        return way.size;
    }

    private static boolean isWay(Sheet way) {
        for (int i = 0; i < way.size; i++) {
            if (!within(way.numbers[i], CELLS)) {
                return false;
            }
            if (i > 0 && !areBeside(way.numbers[i - 1], way.numbers[i])) {
                return false;
            }
        }
        return true;
    }

    public int room(int cell, int bricks, int beams, int worth) {
        if (!within(cell, CELLS)) {
            return NONE;
        }
        if (!between(bricks, 0, 9999) || !between(beams, 0, 999) || !between(worth, 1, 99)) {
            return BAD;
        }
        if (rooms.count >= ROOMS) {
            return FULL;
        }
        int r = rooms.count;
        rooms.cell[r] = cell;
        rooms.bricks[r] = bricks;
        rooms.beams[r] = beams;
        rooms.worth[r] = worth;
        rooms.count++;
        return r;
    }

    // ---- orders

    public int feed(long w, int n) {
        if (!between(n, 1, 8)) {
            return BAD;
        }
        if (tape.size + n > LONGEST_TAPE) {
            return FULL;
        }
        for (int i = n - 1; i >= 0; i--) {
            tape.bytes[tape.size] = (int) (w >> (8 * i)) & 255;
            tape.size++;
        }
        return tape.size;
    }

    public int order() {
        if (orderCount >= ORDERS) {
            return FULL;
        }
        boolean understood = tape.readInto(orders[orderCount]);
        tape.size = 0;
        if (!understood) {
            return FAULT_BASE - tape.place;
        }
        orderCount++;
        return orderCount - 1;
    }

    public int force(int o) {
        if (o != NONE && !within(o, orderCount)) {
            return ABSENT;
        }
        int before = rule;
        rule = o;
        city.rule = o == NONE ? null : orders[o];
        return before;
    }

    public int says(int p, int key) {
        if (!within(p, city.peopleCount)) {
            return NONE;
        }
        if (!within(key, KEYS)) {
            return BAD;
        }
        return city.said(now, p, key);
    }

    public int run(int n) {
        if (!between(n, 1, MOST_DAYS)) {
            return BAD;
        }
        if (now.day + n > LAST_DAY) {
            return FULL;
        }
        for (int i = 0; i < n; i++) {
            city.playDay(now);
        }
        return now.day;
    }

    // ---- looking

    public int cellTold(int c, int what) {
        if (!within(c, CELLS)) {
            return NONE;
        }
        switch (what) {
            case 0:
                return now.loads[c];
            case 1:
                return city.kinds[c] == NO_RUIN ? ABSENT : city.kinds[c];
            case 2:
                return city.weakOf(c);
            default:
                return BAD;
        }
    }

    public int kindTold(int kind, int what) {
        if (!within(kind, KINDS)) {
            return BAD;
        }
        switch (what) {
            case 0:
                return BRICKS_OF[kind];
            case 1:
                return BEAMS_OF[kind];
            case 2:
                return IRON_OF[kind];
            case 3:
                return WEAK_OF[kind];
            default:
                return BAD;
        }
    }

    public int personTold(int p, int what) {
        if (!within(p, city.peopleCount)) {
            return NONE;
        }
        switch (what) {
            case 0:
                return now.home[p];
            case 1:
                return now.hurt[p];
            case 2:
                return now.worked[p];
            case 3:
                return now.given[p];
            case 4:
                return now.dead[p] ? 1 : 0;
            case 5:
                return city.passes(now, p);
            case 6:
                return city.cellByDay(now, p);
            default:
                return BAD;
        }
    }

    public int rowTold(int r, int what) {
        if (!within(r, ROWS)) {
            return ABSENT;
        }
        switch (what) {
            case 0:
                return city.rows[r].size;
            case 1:
                return now.rowLoads[r];
            case 2:
                return city.rows[r].size == 0 ? NOBODY : now.rowStuck[r];
            default:
                return BAD;
        }
    }

    public int railTold(int r, int what) {
        if (!within(r, RAILS)) {
            return NONE;
        }
        switch (what) {
            case 0:
                return city.rails[r].size;
            case 1:
                return now.railLoads[r];
            default:
                return BAD;
        }
    }

    public int wallTold(int k, int what) {
        if (!within(k, city.wallCount)) {
            return NONE;
        }
        switch (what) {
            case 0:
                return now.up[k] ? 1 : 0;
            case 1:
                return now.stands[k];
            case 2:
                return city.wallFallsTo[k];
            default:
                return BAD;
        }
    }

    public int count(int what) {
        switch (what) {
            case 0:
                return now.day;
            case 1:
                return now.allLoads();
            case 2:
                return now.tipped;
            case 3:
                return now.dust;
            case 4:
                return now.kept[BRICKS];
            case 5:
                return now.kept[BEAMS];
            case 6:
                return now.kept[IRON];
            case 7:
                return city.peopleCount;
            case 8:
                return now.allDead();
            case 9:
                return orderCount;
            case 10:
                return rule;
            case 11:
                return tape.size;
            case 12:
                return rooms.count;
            case 13:
                return city.wallCount;
            default:
                return BAD;
        }
    }

    // ---- walls, rooms

    public int pull(int k) {
        if (!within(k, city.wallCount)) {
            return NONE;
        }
        if (!now.up[k]) {
            return STATE;
        }
        return city.fall(now, k);
    }

    public int pulls(int sheet) {
        if (!within(sheet, SHEETS)) {
            return NONE;
        }
        Sheet walls = sheets[sheet];
        if (walls.isMissing()) {
            return NOTHING_THERE;
        }
        if (!between(walls.size, 1, MOST_PULLS) || !areWallsToPull(walls)) {
            return BAD;
        }
        for (int i = 0; i < walls.size; i++) {
            pulling.daysLeft[i] = city.daysUntilFall(now, walls.numbers[i]);
        }
        return pulling.find(walls);
    }

    private boolean areWallsToPull(Sheet walls) {
        for (int i = 0; i < walls.size; i++) {
            int k = walls.numbers[i];
            if (!within(k, city.wallCount) || !now.up[k] || walls.hasAheadOf(i, k)) {
                return false;
            }
        }
        return true;
    }

    public int pullTold(int i) {
        return within(i, pulling.size) ? pulling.found[i] : NONE;
    }

    public int mends(int most) {
        if (!between(most, 0, ROOMS)) {
            return BAD;
        }
        return rooms.findBest(now, most);
    }

    public int mendTold() {
        return rooms.bestSet;
    }

    public int mend(int r) {
        if (!within(r, rooms.count)) {
            return NONE;
        }
        if (now.warm[r]) {
            return STATE;
        }
        if (rooms.bricks[r] > now.kept[BRICKS] || rooms.beams[r] > now.kept[BEAMS]) {
            return TOO_FEW;
        }
        now.kept[BRICKS] -= rooms.bricks[r];
        now.kept[BEAMS] -= rooms.beams[r];
        now.warm[r] = true;
        return now.kept[BRICKS];
    }

    public int roomTold(int r, int what) {
        if (!within(r, rooms.count)) {
            return NONE;
        }
        switch (what) {
            case 0:
                return rooms.cell[r];
            case 1:
                return now.warm[r] ? 1 : 0;
            case 2:
                return rooms.worth[r];
            default:
                return BAD;
        }
    }

    // ---- shells

    public int raid(int from, int side, int length, int shells) {
        if (!within(from, CELLS)) {
            return NONE;
        }
        if (!within(side, SIDES) || !between(length, 1, LONGEST_RAID) || !between(shells, 1, 9)) {
            return BAD;
        }
        if (raids.count >= RAIDS) {
            return FULL;
        }
        return raids.begin(from, side, length, shells);
    }

    public int probe(int cell, int shells) {
        if (!within(cell, CELLS)) {
            return NONE;
        }
        if (!between(shells, 0, 9)) {
            return BAD;
        }
        if (raids.probed[cell]) {
            return STATE;
        }
        if (shells > raids.leftOver(cell)) {
            return TOO_FEW;
        }
        raids.find(cell, shells);
        return raids.leftOver(cell);
    }

    public long likely(int cell, int part) {
        if (!within(cell, CELLS) || !within(part, 2)) {
            return NO;
        }
        int above = raids.chance(cell);
        int common = greatestDivisor(above, Raids.ALL_PARTS);
        return (part == 0 ? above : Raids.ALL_PARTS) / Math.max(common, 1);
    }

    public int next() {
        return raids.likeliest();
    }

    // ---- lots

    public int paper(int lot, int owner, int from) {
        if (!within(lot, LOTS) || !within(owner, city.peopleCount)) {
            return NONE;
        }
        if (!between(from, 0, LAST_DAY)) {
            return BAD;
        }
        if (papers.count >= PAPERS) {
            return FULL;
        }
        int k = papers.count;
        papers.lot[k] = lot;
        papers.owner[k] = owner;
        papers.from[k] = from;
        papers.told[k] = now.day;
        papers.count++;
        return k;
    }

    public int burn(int k) {
        if (!within(k, papers.count)) {
            return NONE;
        }
        if (papers.burnt[k] != Papers.NEVER) {
            return STATE;
        }
        papers.burnt[k] = now.day;
        return 1;
    }

    public int owner(int lot, int day, int known) {
        if (!within(lot, LOTS)) {
            return ABSENT;
        }
        if (!between(day, 0, LAST_DAY) || !between(known, 0, now.day)) {
            return BAD;
        }
        return papers.ownerOf(lot, day, known);
    }

    public int heirs(int lot, int day, int known) {
        int p = owner(lot, day, known);
        if (!within(p, city.peopleCount)) {
            return p;
        }
        return now.dead[p] ? city.livingKin(now, p) : 1 << p;
    }

    // ---- ahead

    public long beside(int n, int what) {
        if (!between(n, 1, MOST_DAYS) || !within(what, 4) || now.day + n > LAST_DAY) {
            return NO;
        }
        aside.become(now);
        for (int i = 0; i < n; i++) {
            city.playDay(aside);
        }
        switch (what) {
            case 0:
                return aside.allLoads();
            case 1:
                return aside.kept[BRICKS] - now.kept[BRICKS];
            case 2:
                return aside.allDead() - now.allDead();
            default:
                return aside.allHurt();
        }
    }

    public int clear(int cell, int n) {
        if (!within(cell, CELLS)) {
            return NONE;
        }
        if (!between(n, 1, MOST_DAYS)) {
            return BAD;
        }
        aside.become(now);
        for (int days = 0; days < n; days++) {
            if (aside.loads[cell] == 0) {
                return days;
            }
            city.playDay(aside);
        }
        return aside.loads[cell] == 0 ? n : STATE;
    }

    public int image() {
        imaged.become(now);
        hasImage = true;
        return now.day;
    }

    public int back() {
        if (!hasImage) {
            return STATE;
        }
        now.become(imaged);
        return now.day;
    }

    // ---- the host

    public int sheet(int s, int sort, int n) {
        if (!within(s, SHEETS)) {
            return BAD;
        }
        if (sort == Sheet.MISSING) {
            sheets[s].sort = Sheet.MISSING;
            return 1;
        }
        if (!within(sort, SORTS) || n > LONGEST_SHEET) {
            return BAD;
        }
        if (n < 0) {
            return SIZE_BELOW_0;
        }
        sheets[s].sort = sort;
        sheets[s].size = n;
        Arrays.fill(sheets[s].numbers, 0);
        return 1;
    }

    public int cell(int s, int i, int v) {
        if (!within(s, SHEETS)) {
            return BAD;
        }
        if (sheets[s].isMissing()) {
            return NOTHING_THERE;
        }
        if (!within(i, sheets[s].size)) {
            return OUTSIDE;
        }
        sheets[s].put(i, v);
        return 1;
    }

    public int copy(int s, int i, int other, int j, int n) {
        if (!within(s, SHEETS) || !within(other, SHEETS)) {
            return BAD;
        }
        Sheet from = sheets[s];
        Sheet to = sheets[other];
        if (from.isMissing() || to.isMissing()) {
            return NOTHING_THERE;
        }
        if (from.sort != to.sort) {
            return OTHER_SORT;
        }
        if (!from.holds(i, n) || !to.holds(j, n)) {
            return OUTSIDE;
        }
        System.arraycopy(from.numbers, i, to.numbers, j, n);
        return n;
    }

    public int people(int s, int sort, int from, int n) {
        if (!within(s, SHEETS) || !within(sort, SORTS) || !between(n, 0, 10)) {
            return BAD;
        }
        Sheet told = sheets[s];
        if (told.isMissing()) {
            return NOTHING_THERE;
        }
        if (told.sort != sort) {
            return OTHER_SORT;
        }
        int came = 0;
        for (int k = 1; k <= n; k++) {
            // All fours up to this one, so that no sum with from can wrap around.
            if (!told.holds(from, 4 * k)) {
                return OUTSIDE;
            }
            if (personFrom(told, from + 4 * (k - 1)) >= 0) {
                came++;
            }
        }
        return came;
    }

    private int personFrom(Sheet told, int i) {
        return person(told.numbers[i], told.numbers[i + 1], told.numbers[i + 2], told.numbers[i + 3]);
    }

    public int taken(int cell, int kind) {
        if (!within(kind, KINDS)) {
            return BAD;
        }
        if (!within(cell, CELLS)) {
            return OUTSIDE;
        }
        int standing = city.kinds[cell];
        if (standing == NO_RUIN) {
            return cell == city.tip ? OTHER_SORT : NOTHING_THERE;
        }
        return isOfKind(standing, kind) ? BRICKS_OF[standing] : OTHER_SORT;
    }

    // ---- numbers and places

    private static boolean within(int number, int bound) {
        return number >= 0 && number < bound;
    }

    private static boolean between(int number, int least, int most) {
        return number >= least && number <= most;
    }

    private static int cellOnSide(int c, int side) {
        int x = c % WIDTH;
        int y = c / WIDTH;
        switch (side) {
            case 0:
                return y < WIDTH - 1 ? c + WIDTH : NOWHERE;
            case 1:
                return x < WIDTH - 1 ? c + 1 : NOWHERE;
            case 2:
                return y > 0 ? c - WIDTH : NOWHERE;
            default:
                return x > 0 ? c - 1 : NOWHERE;
        }
    }

    private static boolean areBeside(int c, int other) {
        for (int side = 0; side < SIDES; side++) {
            if (cellOnSide(c, side) == other) {
                return true;
            }
        }
        return false;
    }

    private static boolean isOfKind(int kind, int wanted) {
        int k = kind;
        for (int level = 0; level < DEPTH_OF_KINDS && k != NO_RUIN; level++) {
            if (k == wanted) {
                return true;
            }
            k = KIND_ABOVE[k];
        }
        return false;
    }

    private static int greatestDivisor(int a, int b) {
        int high = a;
        int low = b;
        for (int i = 0; i < 64 && low != 0; i++) {
            int rest = high % low;
            high = low;
            low = rest;
        }
        return high;
    }

    /**
     * All that a DAY or an image can change. What isn't there yet has the values that an image tells of it
     * later, so that going back needs no counts.
     */
    private static final class State {
        int day = 0;
        int wet = 0;
        int wind = 0;
        int tipped = 0;
        int dust = 0;
        final int[] kept = new int[YIELDS];
        final int[] loads = new int[CELLS];
        final int[] home = new int[PEOPLE];
        final int[] hurt = new int[PEOPLE];
        final int[] worked = new int[PEOPLE];
        final int[] given = new int[PEOPLE];
        final boolean[] dead = new boolean[PEOPLE];
        final int[] stands = new int[WALLS];
        final boolean[] up = new boolean[WALLS];
        final boolean[] warm = new boolean[ROOMS];
        final int[] rowLoads = new int[ROWS];
        final int[] rowStuck = new int[ROWS];
        final int[] railLoads = new int[RAILS];

        State() {
            Arrays.fill(home, NOWHERE);
        }

        void become(State other) {
            day = other.day;
            wet = other.wet;
            wind = other.wind;
            tipped = other.tipped;
            dust = other.dust;
            System.arraycopy(other.kept, 0, kept, 0, YIELDS);
            System.arraycopy(other.loads, 0, loads, 0, CELLS);
            System.arraycopy(other.home, 0, home, 0, PEOPLE);
            System.arraycopy(other.hurt, 0, hurt, 0, PEOPLE);
            System.arraycopy(other.worked, 0, worked, 0, PEOPLE);
            System.arraycopy(other.given, 0, given, 0, PEOPLE);
            System.arraycopy(other.dead, 0, dead, 0, PEOPLE);
            System.arraycopy(other.stands, 0, stands, 0, WALLS);
            System.arraycopy(other.up, 0, up, 0, WALLS);
            System.arraycopy(other.warm, 0, warm, 0, ROOMS);
            System.arraycopy(other.rowLoads, 0, rowLoads, 0, ROWS);
            System.arraycopy(other.rowStuck, 0, rowStuck, 0, ROWS);
            System.arraycopy(other.railLoads, 0, railLoads, 0, RAILS);
        }

        int allLoads() {
            int sum = 0;
            for (int c = 0; c < CELLS; c++) {
                sum += loads[c];
            }
            return sum;
        }

        int allDead() {
            int sum = 0;
            for (int p = 0; p < PEOPLE; p++) {
                sum += dead[p] ? 1 : 0;
            }
            return sum;
        }

        int allHurt() {
            int sum = 0;
            for (int p = 0; p < PEOPLE; p++) {
                sum += hurt[p];
            }
            return sum;
        }
    }

    private static final class Row {
        final int[] hands = new int[HANDS];
        int size = 0;
        int from = 0;
        int to = 0;
    }

    private static final class Rail {
        int size = 0;
        int cars = 0;
        int first = 0;
        int last = 0;
    }

    /** What is told of the city and no DAY changes, and how a DAY goes; a State is played by it, now or aside. */
    private static final class City {
        static final int MOST_HOURS = 14;
        static final int MOST_GIVEN = 9;
        static final int DEADLY = 9;
        static final int HURT_BY_WALL = 3;
        static final int LOADS_OF_WALL = 20;
        static final int DUST_OF_TEN = 4;
        static final int LOADS_OF_CAR = 60;

        final int[] kinds = new int[CELLS];
        int tip = NOWHERE;
        int peopleCount = 0;
        final int[] strong = new int[PEOPLE];
        final int[] age = new int[PEOPLE];
        final int[] kin = new int[PEOPLE];
        final int[] rowOf = new int[PEOPLE];
        final Row[] rows = new Row[ROWS];
        final Rail[] rails = new Rail[RAILS];
        int wallCount = 0;
        final int[] wallCell = new int[WALLS];
        final int[] wallFallsTo = new int[WALLS];
        Order rule = null;
        final int[] facts = new int[Order.FIELDS];

        City() {
            Arrays.fill(kinds, NO_RUIN);
            Arrays.fill(rowOf, NOWHERE);
            for (int r = 0; r < ROWS; r++) {
                rows[r] = new Row();
            }
            for (int r = 0; r < RAILS; r++) {
                rails[r] = new Rail();
            }
        }

        void setHands(int r, Sheet sheet) {
            for (int p = 0; p < PEOPLE; p++) {
                if (rowOf[p] == r) {
                    rowOf[p] = NOWHERE;
                }
            }
            rows[r].size = sheet.size;
            for (int i = 0; i < sheet.size; i++) {
                rows[r].hands[i] = sheet.numbers[i];
                rowOf[sheet.numbers[i]] = r;
            }
        }

        int weakOf(int c) {
            return kinds[c] == NO_RUIN ? WEAK_WITHOUT_RUIN : WEAK_OF[kinds[c]];
        }

        int said(State s, int p, int key) {
            if (rule == null) {
                return key == WORK ? 8 : key == CARD ? 1 : 0;
            }
            // In the order of Tape.FIELD_WORDS.
            facts[0] = strong[p];
            facts[1] = age[p];
            facts[2] = kin[p];
            facts[3] = s.hurt[p];
            facts[4] = s.wet;
            facts[5] = s.wind;
            facts[6] = s.day;
            facts[7] = s.worked[p];
            for (int line = 0; line < rule.size; line++) {
                if (rule.keys[line] == key && rule.holds(line, facts)) {
                    return rule.numbers[line];
                }
            }
            return 0;
        }

        int passes(State s, int p) {
            if (s.dead[p] || said(s, p, STAY) != 0) {
                return 0;
            }
            int hours = Math.min(said(s, p, WORK), MOST_HOURS);
            return hours * Math.max(strong[p] - s.hurt[p], 0);
        }

        int cellByDay(State s, int p) {
            int r = rowOf[p];
            return r != NOWHERE && passes(s, p) > 0 ? rows[r].from : s.home[p];
        }

        int livingKin(State s, int p) {
            int bits = 0;
            for (int other = 0; other < peopleCount; other++) {
                if (other != p && kin[other] == kin[p] && !s.dead[other]) {
                    bits |= 1 << other;
                }
            }
            return bits;
        }

        void playDay(State s) {
            for (int r = 0; r < ROWS; r++) {
                workRow(s, r);
            }
            for (int r = 0; r < RAILS; r++) {
                driveRail(s, r);
            }
            for (int k = 0; k < wallCount; k++) {
                if (s.up[k] && wearsOut(s, k)) {
                    fall(s, k);
                }
            }
            for (int p = 0; p < peopleCount; p++) {
                if (!s.dead[p]) {
                    s.given[p] += Math.min(said(s, p, CARD), MOST_GIVEN);
                }
            }
            if (s.day % 7 == 6) {
                heal(s);
            }
            s.day++;
        }

        void workRow(State s, int r) {
            Row row = rows[r];
            s.rowLoads[r] = 0;
            s.rowStuck[r] = NOBODY;
            int least = 0;
            for (int i = 0; i < row.size; i++) {
                int passed = passes(s, row.hands[i]);
                if (i == 0 || passed < least) {
                    least = passed;
                    s.rowStuck[r] = row.hands[i];
                }
            }
            int moved = Math.min(least, s.loads[row.from]);
            if (moved > 0) {
                passOn(s, row, moved);
                s.rowLoads[r] = moved;
            }
        }

        void passOn(State s, Row row, int moved) {
            int tens = moved / 10;
            int kind = kinds[row.from];
            if (kind != NO_RUIN) {
                s.kept[BRICKS] += tens * BRICKS_OF[kind];
                s.kept[BEAMS] += tens * BEAMS_OF[kind];
                s.kept[IRON] += tens * IRON_OF[kind];
            }
            s.dust += tens * DUST_OF_TEN;
            s.loads[row.from] -= moved;
            bring(s, row.to, moved - tens * DUST_OF_TEN);
            for (int i = 0; i < row.size; i++) {
                int p = row.hands[i];
                s.worked[p] += Math.min(said(s, p, WORK), MOST_HOURS);
            }
        }

        void bring(State s, int to, int loads) {
            if (to == tip) {
                s.tipped += loads;
            } else {
                s.loads[to] += loads;
            }
        }

        void driveRail(State s, int r) {
            Rail rail = rails[r];
            s.railLoads[r] = 0;
            if (rail.size < 2) {
                return;
            }
            int moved = Math.min(LOADS_OF_CAR * rail.cars / (rail.size - 1), s.loads[rail.first]);
            s.railLoads[r] = moved;
            s.loads[rail.first] -= moved;
            bring(s, rail.last, moved);
        }

        int wearOf(State s, int k) {
            return s.wet * weakOf(wallCell[k]) / 10;
        }

        boolean wearsOut(State s, int k) {
            s.stands[k] -= wearOf(s, k);
            return s.stands[k] <= 3 * s.wind;
        }

        /** Answers 100 for each who dies by it, and all the HURT that it brings. */
        int fall(State s, int k) {
            int to = wallFallsTo[k];
            int harm = 0;
            s.up[k] = false;
            // These lie where they fall, on THE TIP too: the document tips only what ROWS and RAILS bring.
            s.loads[to] += LOADS_OF_WALL;
            for (int p = 0; p < peopleCount; p++) {
                if (cellByDay(s, p) == to) {
                    s.hurt[p] += HURT_BY_WALL;
                    harm += HURT_BY_WALL;
                    if (s.hurt[p] >= DEADLY && !s.dead[p]) {
                        s.dead[p] = true;
                        harm += 100;
                    }
                }
            }
            return harm;
        }

        void heal(State s) {
            for (int p = 0; p < peopleCount; p++) {
                if (!s.dead[p] && s.hurt[p] > 0) {
                    s.hurt[p]--;
                }
            }
        }

        /** On how many DAYS (3) goes by until a WALL is down; one more than any PULLS take, if it stands longer. */
        int daysUntilFall(State s, int k) {
            for (int days = 1; days <= MOST_PULLS; days++) {
                if (s.stands[k] - days * wearOf(s, k) <= 3 * s.wind) {
                    return days;
                }
            }
            return MOST_PULLS + 1;
        }
    }

    /** The lines of one ORDER; the TESTS of line i stand from TESTS * i on. */
    private static final class Order {
        static final int FIELDS = 8;
        // In the order of Tape.SIGNS.
        static final int BELOW = 0, ABOVE = 1, EQUAL = 2;

        int size = 0;
        final int[] keys = new int[LINES];
        final int[] numbers = new int[LINES];
        final int[] testCounts = new int[LINES];
        final int[] fields = new int[LINES * TESTS];
        final int[] signs = new int[LINES * TESTS];
        final int[] bounds = new int[LINES * TESTS];

        boolean holds(int line, int[] facts) {
            for (int i = 0; i < testCounts[line]; i++) {
                int test = TESTS * line + i;
                int fact = facts[fields[test]];
                int bound = bounds[test];
                boolean failed = fact == bound ? signs[test] != EQUAL : signs[test] != (fact < bound ? BELOW : ABOVE);
                if (failed) {
                    return false;
                }
            }
            return true;
        }
    }

    /**
     * THE TAPE and its reading. Each reading method goes ahead as far as some ORDER begins so; when it answers
     * false (or -1), place is that of the FAULT.
     */
    private static final class Tape {
        static final String KEY_WORDS = "work card stay ";
        static final String FIELD_WORDS = "strong age kin hurt wet wind day worked ";
        static final String SIGNS = "< > = ";
        static final String IF = " if ";
        static final int DIGITS = 3;
        static final int END = -1;

        final int[] bytes = new int[LONGEST_TAPE];
        int size = 0;
        int place = 0;

        boolean readInto(Order order) {
            place = 0;
            order.size = 0;
            for (int line = 0; line < LINES; line++) {
                if (!readLine(order, line)) {
                    return false;
                }
                order.size++;
                if (place == size) {
                    return true;
                }
            }
            return false;
        }

        boolean readLine(Order order, int line) {
            order.keys[line] = readWord(KEY_WORDS);
            if (order.keys[line] < 0 || !readSign(' ')) {
                return false;
            }
            order.numbers[line] = readNumber();
            order.testCounts[line] = 0;
            if (order.numbers[line] < 0) {
                return false;
            }
            if (readSign(';')) {
                return true;
            }
            return readIf() && readTests(order, line);
        }

        boolean readIf() {
            for (int i = 0; i < IF.length(); i++) {
                if (!readSign(IF.charAt(i))) {
                    return false;
                }
            }
            return true;
        }

        boolean readTests(Order order, int line) {
            for (int i = 0; i < TESTS; i++) {
                if (!readTest(order, TESTS * line + i)) {
                    return false;
                }
                order.testCounts[line]++;
                if (readSign(';')) {
                    return true;
                }
                if (i == TESTS - 1 || !readSign('&')) {
                    return false;
                }
            }
            return false;
        }

        boolean readTest(Order order, int test) {
            order.fields[test] = readWord(FIELD_WORDS);
            if (order.fields[test] < 0) {
                return false;
            }
            order.signs[test] = readWord(SIGNS);
            if (order.signs[test] < 0) {
                return false;
            }
            order.bounds[test] = readNumber();
            return order.bounds[test] >= 0;
        }

        boolean readSign(char sign) {
            if (byteAt(place) != sign) {
                return false;
            }
            place++;
            return true;
        }

        int readNumber() {
            int number = END;
            for (int i = 0; i < DIGITS; i++) {
                int b = byteAt(place);
                if (b < '0' || b > '9') {
                    return number;
                }
                number = Math.max(number, 0) * 10 + b - '0';
                place++;
            }
            return number;
        }

        /** Which of the words (each with a blank behind it) stands here; none of them begins another. */
        int readWord(String words) {
            int furthest = 0;
            int word = 0;
            int matched = 0;
            boolean alike = true;
            for (int i = 0; i < words.length(); i++) {
                char sign = words.charAt(i);
                if (sign == ' ' && alike) {
                    place += matched;
                    return word;
                }
                if (sign == ' ') {
                    word++;
                    matched = 0;
                    alike = true;
                } else if (alike && byteAt(place + matched) == sign) {
                    matched++;
                    furthest = Math.max(furthest, matched);
                } else {
                    alike = false;
                }
            }
            place += furthest;
            return END;
        }

        int byteAt(int i) {
            return i < size ? bytes[i] : END;
        }
    }

    /** The order of PULLS that was found last. */
    private static final class Pulls {
        static final int MOST_ORDERS = 720;

        int size = 0;
        final int[] found = new int[MOST_PULLS];
        final int[] places = new int[MOST_PULLS];
        final int[] daysLeft = new int[MOST_PULLS];

        int find(Sheet walls) {
            int fewest = MOST_PULLS + 1;
            size = walls.size;
            for (int i = 0; i < size; i++) {
                places[i] = i;
            }
            for (int tried = 0; tried < MOST_ORDERS; tried++) {
                int late = countLate();
                if (late < fewest) {
                    fewest = late;
                    keep(walls);
                }
                if (!goOn()) {
                    break;
                }
            }
            return fewest;
        }

        int countLate() {
            int late = 0;
            for (int i = 0; i < size; i++) {
                late += daysLeft[places[i]] <= i ? 1 : 0;
            }
            return late;
        }

        void keep(Sheet walls) {
            for (int i = 0; i < size; i++) {
                found[i] = walls.numbers[places[i]];
            }
        }

        /** The next order by places: the last place that can grow becomes the least greater one, the rest rise. */
        boolean goOn() {
            int grows = size - 2;
            while (grows >= 0 && places[grows] > places[grows + 1]) {
                grows--;
            }
            if (grows < 0) {
                return false;
            }
            int with = size - 1;
            while (with > grows && places[with] < places[grows]) {
                with--;
            }
            swap(grows, with);
            for (int i = grows + 1, j = size - 1; i < j; i++, j--) {
                swap(i, j);
            }
            return true;
        }

        void swap(int i, int j) {
            int kept = places[i];
            places[i] = places[j];
            places[j] = kept;
        }
    }

    private static final class Rooms {
        int count = 0;
        final int[] cell = new int[ROOMS];
        final int[] bricks = new int[ROOMS];
        final int[] beams = new int[ROOMS];
        final int[] worth = new int[ROOMS];
        int bestSet = 0;
        int bestWorth = 0;
        int bricksLeft = 0;
        int beamsLeft = 0;

        int findBest(State s, int most) {
            bestSet = 0;
            bestWorth = 0;
            bricksLeft = s.kept[BRICKS];
            beamsLeft = s.kept[BEAMS];
            choose(s, count - 1, most, 0, 0);
            return bestWorth;
        }

        /** From ROOM r down, first without it: so sets come by rising bits, and the first best one stays. */
        private void choose(State s, int r, int most, int set, int sum) {
            if (r < 0) {
                if (sum > bestWorth) {
                    bestWorth = sum;
                    bestSet = set;
                }
                return;
            }
            choose(s, r - 1, most, set, sum);
            if (most > 0 && !s.warm[r] && bricks[r] <= bricksLeft && beams[r] <= beamsLeft) {
                bricksLeft -= bricks[r];
                beamsLeft -= beams[r];
                choose(s, r - 1, most - 1, set | 1 << r, sum + worth[r]);
                bricksLeft += bricks[r];
                beamsLeft += beams[r];
            }
        }
    }

    private static final class Raids {
        /** Each of 1 to 10 divides it, so that every chance is a whole number of such parts. */
        static final int ALL_PARTS = 2520;

        int count = 0;
        final int[][] cells = new int[RAIDS][LONGEST_RAID];
        final int[] length = new int[RAIDS];
        final int[] shellsLeft = new int[RAIDS];
        final int[] unprobed = new int[RAIDS];
        final boolean[] probed = new boolean[CELLS];

        int begin(int from, int side, int most, int shells) {
            int raid = count;
            int c = from;
            length[raid] = 0;
            unprobed[raid] = 0;
            for (int i = 0; i < most && c != NOWHERE; i++) {
                cells[raid][i] = c;
                length[raid]++;
                unprobed[raid] += probed[c] ? 0 : 1;
                c = cellOnSide(c, side);
            }
            shellsLeft[raid] = shells;
            count++;
            return raid;
        }

        boolean isOver(int raid, int c) {
            for (int i = 0; i < length[raid]; i++) {
                if (cells[raid][i] == c) {
                    return true;
                }
            }
            return false;
        }

        int leftOver(int c) {
            int left = 0;
            for (int raid = 0; raid < count; raid++) {
                left += isOver(raid, c) ? shellsLeft[raid] : 0;
            }
            return left;
        }

        void find(int c, int shells) {
            int toFind = shells;
            probed[c] = true;
            for (int raid = 0; raid < count; raid++) {
                if (isOver(raid, c)) {
                    int found = Math.min(toFind, shellsLeft[raid]);
                    shellsLeft[raid] -= found;
                    toFind -= found;
                    unprobed[raid]--;
                }
            }
        }

        int chance(int c) {
            if (probed[c]) {
                return 0;
            }
            int sum = 0;
            for (int raid = 0; raid < count; raid++) {
                if (unprobed[raid] > 0 && isOver(raid, c)) {
                    sum += shellsLeft[raid] * (ALL_PARTS / unprobed[raid]);
                }
            }
            return sum;
        }

        int likeliest() {
            int best = NONE;
            int greatest = 0;
            for (int c = 0; c < CELLS; c++) {
                int chance = chance(c);
                if (chance > greatest) {
                    greatest = chance;
                    best = c;
                }
            }
            return best;
        }
    }

    private static final class Papers {
        static final int NEVER = -1;

        int count = 0;
        final int[] lot = new int[PAPERS];
        final int[] owner = new int[PAPERS];
        final int[] from = new int[PAPERS];
        final int[] told = new int[PAPERS];
        final int[] burnt = new int[PAPERS];

        Papers() {
            Arrays.fill(burnt, NEVER);
        }

        int ownerOf(int ofLot, int day, int known) {
            int best = NONE;
            for (int k = 0; k < count; k++) {
                boolean counts = lot[k] == ofLot && from[k] <= day && isKnown(k, known);
                if (counts && (best == NONE || from[k] >= from[best])) {
                    best = k;
                }
            }
            return best == NONE ? NONE : owner[best];
        }

        boolean isKnown(int k, int known) {
            return told[k] <= known && (burnt[k] == NEVER || burnt[k] > known);
        }
    }

    private static final class Sheet {
        static final int MISSING = -1, BYTES = 0, SHORTS = 1;

        int sort = MISSING;
        int size = 0;
        final int[] numbers = new int[LONGEST_SHEET];

        boolean isMissing() {
            return sort == MISSING;
        }

        void put(int i, int v) {
            numbers[i] = sort == BYTES ? (byte) v : sort == SHORTS ? (short) v : v;
        }

        boolean holds(int i, int n) {
            return i >= 0 && n >= 0 && n <= size - i;
        }

        boolean hasAheadOf(int i, int number) {
            for (int j = 0; j < i; j++) {
                if (numbers[j] == number) {
                    return true;
                }
            }
            return false;
        }
    }
}
