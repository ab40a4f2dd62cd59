import java.util.ArrayList;
import java.util.Arrays;
import java.util.HashMap;
import java.util.List;
import java.util.Map;
import java.util.regex.Matcher;
import java.util.regex.Pattern;

/**
 * The document once more, told in the plainest way and with the Java library, so that runs of calls can be held
 * against it. It plays days where the class reckons, tries all orders and all sets, and reads orders by a pattern.
 */
final class Model {
    private static final int NONE = -1, BAD = -2, STATE = -3, FULL = -4;
    private static final long NO = -4611686018427387904L;
    private static final String TEST = "(?:strong|age|kin|hurt|wet|wind|day|worked)[<>=][0-9]{1,3}";
    private static final String LINE = "(?:work|card|stay) [0-9]{1,3}(?: if " + TEST + "(?:&" + TEST + "){0,2})?;";
    private static final Pattern ORDER = Pattern.compile("(?:" + LINE + "){1,8}");
    private static final String[] KEYS = {"work", "card", "stay"};

    private static final class Person {
        int home, strong, age, kin, hurt, worked, given;
        boolean dead;
        int row = -1;

        Person copy() {
            Person p = new Person();
            p.home = home;
            p.strong = strong;
            p.age = age;
            p.kin = kin;
            p.hurt = hurt;
            p.worked = worked;
            p.given = given;
            p.dead = dead;
            p.row = row;
            return p;
        }
    }

    private static final class Wall {
        int cell, to, stands;
        boolean down;

        Wall copy() {
            Wall w = new Wall();
            w.cell = cell;
            w.to = to;
            w.stands = stands;
            w.down = down;
            return w;
        }
    }

    private record Raid(List<Integer> cells, int[] left) {
    }

    private record Paper(int lot, int owner, int from, int told, int[] burnt) {
    }

    private record Room(int cell, int bricks, int beams, int worth, boolean[] warm) {
    }

    private int day, wet, wind, tip = -1, tipped, dust;
    private int[] kept = new int[3];
    private int[] loads = new int[100];
    private final Map<Integer, Integer> ruins = new HashMap<>();
    private List<Person> people = new ArrayList<>();
    private List<Wall> walls = new ArrayList<>();
    private final List<Room> rooms = new ArrayList<>();
    private final int[][] hands = new int[4][0];
    private final int[][] ends = new int[4][2];
    private int[] rowLoads = new int[4];
    private int[] rowStuck = new int[4];
    private final int[][] ways = new int[3][0];
    private final int[] cars = new int[3];
    private int[] railLoads = new int[3];
    private final StringBuilder tape = new StringBuilder();
    private final List<String> orders = new ArrayList<>();
    private int rule = -1;
    private final List<Integer> pullOrder = new ArrayList<>();
    private int mendSet;
    private final List<Raid> raids = new ArrayList<>();
    private final boolean[] probed = new boolean[100];
    private final List<Paper> papers = new ArrayList<>();
    private final int[][] sheets = new int[4][];
    private final int[] sorts = new int[4];
    private Model image;

    private Model aside() {
        Model m = new Model();
        m.keep(this);
        m.tip = tip;
        m.ruins.putAll(ruins);
        m.rule = rule;
        m.orders.addAll(orders);
        for (int r = 0; r < 4; r++) {
            m.hands[r] = hands[r];
            m.ends[r] = ends[r];
        }
        for (int r = 0; r < 3; r++) {
            m.ways[r] = ways[r];
            m.cars[r] = cars[r];
        }
        return m;
    }

    private void keep(Model m) {
        day = m.day;
        wet = m.wet;
        wind = m.wind;
        tipped = m.tipped;
        dust = m.dust;
        kept = m.kept.clone();
        loads = m.loads.clone();
        people = new ArrayList<>();
        m.people.forEach(p -> people.add(p.copy()));
        walls = new ArrayList<>();
        m.walls.forEach(w -> walls.add(w.copy()));
        rowLoads = m.rowLoads.clone();
        rowStuck = m.rowStuck.clone();
        railLoads = m.railLoads.clone();
    }

    private static boolean in(int n, int least, int most) {
        return n >= least && n <= most;
    }

    private static boolean isCell(int c) {
        return in(c, 0, 99);
    }

    private static int[] kind(int k) {
        int[] of = k == 0 ? new int[] {20, 1, 0, 3} : kind(k == 1 || k == 2 ? 0 : k == 4 ? 2 : 1).clone();
        switch (k) {
            case 1 -> {
                of[0] += 15;
                of[1] += 3;
            }
            case 2 -> {
                of[2] += 5;
                of[3] -= 1;
            }
            case 3 -> {
                of[0] *= 2;
                of[3] += 4;
            }
            case 4 -> {
                of[0] /= 2;
                of[1] += 6;
            }
            case 5 -> {
                of[0] = 5;
                of[3] *= 2;
            }
            default -> {
            }
        }
        return of;
    }

    private static int onSide(int c, int side) {
        int x = c % 10 + new int[] {0, 1, 0, -1}[side];
        int y = c / 10 + new int[] {1, 0, -1, 0}[side];
        return in(x, 0, 9) && in(y, 0, 9) ? 10 * y + x : -1;
    }

    private static boolean beside(int c, int d, boolean told) {
        return told && isCell(c) && isCell(d) && Math.abs(c % 10 - d % 10) + Math.abs(c / 10 - d / 10) == 1;
    }

    private int weak(int c) {
        return ruins.containsKey(c) ? kind(ruins.get(c))[3] : 3;
    }

    // ---- the city

    int ruin(int cell, int kind, int n) {
        if (!isCell(cell)) {
            return NONE;
        }
        if (!in(kind, 0, 5) || !in(n, 0, 9999)) {
            return BAD;
        }
        int had = loads[cell];
        ruins.put(cell, kind);
        loads[cell] = n;
        return had;
    }

    int person(int cell, int strong, int years, int kins) {
        if (!isCell(cell)) {
            return NONE;
        }
        if (!in(strong, 1, 9) || !in(years, 0, 99) || !in(kins, 0, 9)) {
            return BAD;
        }
        if (people.size() == 24) {
            return FULL;
        }
        Person p = new Person();
        p.home = cell;
        p.strong = strong;
        p.age = years;
        p.kin = kins;
        people.add(p);
        return people.size() - 1;
    }

    int moves(int p, int cell) {
        if (!in(p, 0, people.size() - 1) || !isCell(cell)) {
            return NONE;
        }
        if (people.get(p).dead) {
            return STATE;
        }
        int was = people.get(p).home;
        people.get(p).home = cell;
        return was;
    }

    int wall(int cell, int side, int stands) {
        if (!isCell(cell)) {
            return NONE;
        }
        if (!in(side, 0, 3) || !in(stands, 1, 99)) {
            return BAD;
        }
        if (onSide(cell, side) < 0) {
            return STATE;
        }
        if (walls.size() == 16) {
            return FULL;
        }
        Wall w = new Wall();
        w.cell = cell;
        w.to = onSide(cell, side);
        w.stands = stands;
        walls.add(w);
        return walls.size() - 1;
    }

    int weather(int a, int b) {
        if (!in(a, 0, 9) || !in(b, 0, 9)) {
            return BAD;
        }
        int was = 10 * wet + wind;
        wet = a;
        wind = b;
        return was;
    }

    int tip(int cell) {
        if (!in(cell, -1, 99)) {
            return -5;
        }
        int was = tip;
        tip = cell;
        return was;
    }

    int row(int r, int sheet, int from, int to) {
        if (!in(r, 0, 3) || !in(sheet, 0, 3) || !isCell(from) || !isCell(to)) {
            return NONE;
        }
        int[] told = sheets[sheet];
        if (told == null) {
            return -11;
        }
        if (told.length > 8 || !beside(from, to, true)) {
            return BAD;
        }
        List<Integer> ahead = new ArrayList<>();
        for (int p : told) {
            if (!in(p, 0, people.size() - 1) || people.get(p).dead || ahead.contains(p)) {
                return BAD;
            }
            if (people.get(p).row != -1 && people.get(p).row != r) {
                return STATE;
            }
            ahead.add(p);
        }
        for (int p : hands[r]) {
            people.get(p).row = -1;
        }
        for (int p : told) {
            people.get(p).row = r;
        }
        hands[r] = told.clone();
        ends[r] = new int[] {from, to};
        return told.length;
    }

    int rail(int r, int sheet, int n) {
        if (!in(r, 0, 2) || !in(sheet, 0, 3)) {
            return NONE;
        }
        int[] told = sheets[sheet];
        if (told == null) {
            return -11;
        }
        boolean way = told.length == 0 || in(told.length, 2, 12);
        for (int i = 1; i < told.length; i++) {
            way = beside(told[i - 1], told[i], way);
        }
        if (!way || !in(n, 0, 20)) {
            return BAD;
        }
        ways[r] = told.clone();
        cars[r] = n;
        return told.length;
    }

    int room(int cell, int bricks, int beams, int worth) {
        if (!isCell(cell)) {
            return NONE;
        }
        if (!in(bricks, 0, 9999) || !in(beams, 0, 999) || !in(worth, 1, 99)) {
            return BAD;
        }
        if (rooms.size() == 12) {
            return FULL;
        }
        rooms.add(new Room(cell, bricks, beams, worth, new boolean[1]));
        return rooms.size() - 1;
    }

    // ---- orders

    int feed(long w, int n) {
        if (!in(n, 1, 8)) {
            return BAD;
        }
        if (tape.length() + n > 160) {
            return FULL;
        }
        for (int i = n; i > 0; i--) {
            tape.append((char) (w >>> 8 * (i - 1) & 255));
        }
        return tape.length();
    }

    int order() {
        if (orders.size() == 6) {
            return FULL;
        }
        String text = tape.toString();
        tape.setLength(0);
        if (ORDER.matcher(text).matches()) {
            orders.add(text);
            return orders.size() - 1;
        }
        for (int n = 1; n <= text.length(); n++) {
            Matcher beginning = ORDER.matcher(text.substring(0, n));
            if (!beginning.matches() && !beginning.hitEnd()) {
                return -100 - (n - 1);
            }
        }
        return -100 - text.length();
    }

    int force(int o) {
        if (!in(o, -1, orders.size() - 1)) {
            return -5;
        }
        int was = rule;
        rule = o;
        return was;
    }

    int says(int p, int key) {
        if (!in(p, 0, people.size() - 1)) {
            return NONE;
        }
        return in(key, 0, 2) ? said(people.get(p), key) : BAD;
    }

    private int said(Person p, int key) {
        if (rule == -1) {
            return new int[] {8, 1, 0}[key];
        }
        Map<String, Integer> facts = Map.of("strong", p.strong, "age", p.age, "kin", p.kin, "hurt", p.hurt,
                "wet", wet, "wind", wind, "day", day, "worked", p.worked);
        for (String line : orders.get(rule).split(";")) {
            String[] parts = line.split(" if ");
            String[] head = parts[0].split(" ");
            boolean holds = head[0].equals(KEYS[key]);
            for (String test : parts.length == 1 ? new String[0] : parts[1].split("&")) {
                String[] sides = test.split("[<>=]");
                int difference = facts.get(sides[0]) - Integer.parseInt(sides[1]);
                char sign = test.charAt(sides[0].length());
                holds &= sign == '<' ? difference < 0 : sign == '>' ? difference > 0 : difference == 0;
            }
            if (holds) {
                return Integer.parseInt(head[1]);
            }
        }
        return 0;
    }

    private int passes(Person p) {
        return p.dead || said(p, 2) != 0 ? 0 : Math.min(14, said(p, 0)) * Math.max(0, p.strong - p.hurt);
    }

    private int byDay(Person p) {
        return p.row >= 0 && passes(p) > 0 ? ends[p.row][0] : p.home;
    }

    int run(int n) {
        if (!in(n, 1, 60)) {
            return BAD;
        }
        if (day + n > 2000) {
            return FULL;
        }
        for (int i = 0; i < n; i++) {
            playDay();
        }
        return day;
    }

    private void come(int cell, int n) {
        if (cell == tip) {
            tipped += n;
        } else {
            loads[cell] += n;
        }
    }

    private void playDay() {
        for (int r = 0; r < 4; r++) {
            rowLoads[r] = 0;
            rowStuck[r] = -1;
            if (hands[r].length > 0) {
                playRow(r);
            }
        }
        for (int r = 0; r < 3; r++) {
            railLoads[r] = 0;
            if (ways[r].length > 0) {
                int first = ways[r][0];
                railLoads[r] = Math.min(60 * cars[r] / (ways[r].length - 1), loads[first]);
                loads[first] -= railLoads[r];
                come(ways[r][ways[r].length - 1], railLoads[r]);
            }
        }
        playWalls();
        for (Person p : people) {
            p.given += p.dead ? 0 : Math.min(9, said(p, 1));
            p.hurt = p.dead || day % 7 != 6 ? p.hurt : Math.max(0, p.hurt - 1);
        }
        day++;
    }

    private void playRow(int r) {
        int least = Integer.MAX_VALUE;
        for (int p : hands[r]) {
            if (passes(people.get(p)) < least) {
                least = passes(people.get(p));
                rowStuck[r] = p;
            }
        }
        int n = Math.min(least, loads[ends[r][0]]);
        rowLoads[r] = n;
        loads[ends[r][0]] -= n;
        for (int ten = 0; ten < n / 10; ten++) {
            for (int what = 0; what < 3 && ruins.containsKey(ends[r][0]); what++) {
                kept[what] += kind(ruins.get(ends[r][0]))[what];
            }
            dust += 4;
        }
        come(ends[r][1], n - n / 10 * 4);
        for (int p : hands[r]) {
            people.get(p).worked += n == 0 ? 0 : Math.min(14, said(people.get(p), 0));
        }
    }

    private void playWalls() {
        for (Wall w : walls) {
            if (!w.down) {
                w.stands -= wet * weak(w.cell) / 10;
                if (w.stands <= 3 * wind) {
                    fall(w);
                }
            }
        }
    }

    private int fall(Wall w) {
        w.down = true;
        loads[w.to] += 20;
        int harm = 0;
        for (Person p : people) {
            if (byDay(p) == w.to) {
                p.hurt += 3;
                harm += p.hurt >= 9 && !p.dead ? 103 : 3;
                p.dead |= p.hurt >= 9;
            }
        }
        return harm;
    }

    // ---- looking

    int cellTold(int c, int what) {
        if (!isCell(c)) {
            return NONE;
        }
        return in(what, 0, 2) ? new int[] {loads[c], ruins.getOrDefault(c, -5), weak(c)}[what] : BAD;
    }

    int kindTold(int kind, int what) {
        return in(kind, 0, 5) && in(what, 0, 3) ? kind(kind)[what] : BAD;
    }

    int personTold(int p, int what) {
        if (!in(p, 0, people.size() - 1)) {
            return NONE;
        }
        Person q = people.get(p);
        int[] told = {q.home, q.hurt, q.worked, q.given, q.dead ? 1 : 0, passes(q), byDay(q)};
        return in(what, 0, 6) ? told[what] : BAD;
    }

    int rowTold(int r, int what) {
        if (!in(r, 0, 3)) {
            return -5;
        }
        int n = hands[r].length;
        return in(what, 0, 2) ? new int[] {n, rowLoads[r], n == 0 ? -1 : rowStuck[r]}[what] : BAD;
    }

    int railTold(int r, int what) {
        if (!in(r, 0, 2)) {
            return NONE;
        }
        return in(what, 0, 1) ? new int[] {ways[r].length, railLoads[r]}[what] : BAD;
    }

    int wallTold(int k, int what) {
        if (!in(k, 0, walls.size() - 1)) {
            return NONE;
        }
        Wall w = walls.get(k);
        return in(what, 0, 2) ? new int[] {w.down ? 0 : 1, w.stands, w.to}[what] : BAD;
    }

    int count(int what) {
        int dead = (int) people.stream().filter(p -> p.dead).count();
        int[] told = {day, Arrays.stream(loads).sum(), tipped, dust, kept[0], kept[1], kept[2], people.size(), dead,
            orders.size(), rule, tape.length(), rooms.size(), walls.size()};
        return in(what, 0, 13) ? told[what] : BAD;
    }

    // ---- walls, rooms

    int pull(int k) {
        if (!in(k, 0, walls.size() - 1)) {
            return NONE;
        }
        return walls.get(k).down ? STATE : fall(walls.get(k));
    }

    int pulls(int sheet) {
        if (!in(sheet, 0, 3)) {
            return NONE;
        }
        int[] told = sheets[sheet];
        if (told == null) {
            return -11;
        }
        boolean good = in(told.length, 1, 6) && Arrays.stream(told).distinct().count() == told.length;
        for (int k : told) {
            good &= in(k, 0, walls.size() - 1) && !walls.get(Math.max(0, Math.min(k, walls.size() - 1))).down;
        }
        if (!good) {
            return BAD;
        }
        pullOrder.clear();
        return tryOrders(told, new ArrayList<>(), Integer.MAX_VALUE);
    }

    private int tryOrders(int[] told, List<Integer> ahead, int fewest) {
        if (ahead.size() == told.length) {
            int late = late(ahead);
            if (late < fewest) {
                pullOrder.clear();
                pullOrder.addAll(ahead);
            }
            return Math.min(late, fewest);
        }
        int best = fewest;
        for (int k : told) {
            if (!ahead.contains(k)) {
                ahead.add(k);
                best = tryOrders(told, ahead, best);
                ahead.remove(ahead.size() - 1);
            }
        }
        return best;
    }

    private int late(List<Integer> order) {
        Model m = new Model();
        m.wet = wet;
        m.wind = wind;
        m.ruins.putAll(ruins);
        walls.forEach(w -> m.walls.add(w.copy()));
        int late = 0;
        for (int k : order) {
            late += m.walls.get(k).down ? 1 : 0;
            m.walls.get(k).down = true;
            m.playWalls();
        }
        return late;
    }

    int pullTold(int i) {
        return in(i, 0, pullOrder.size() - 1) ? pullOrder.get(i) : NONE;
    }

    int mends(int most) {
        if (!in(most, 0, 12)) {
            return BAD;
        }
        int best = 0;
        mendSet = 0;
        for (int set = 0; set < 1 << rooms.size(); set++) {
            int bricks = 0, beams = 0, worth = 0;
            boolean cold = true;
            for (int r = 0; r < rooms.size(); r++) {
                if ((set >> r & 1) == 1) {
                    bricks += rooms.get(r).bricks;
                    beams += rooms.get(r).beams;
                    worth += rooms.get(r).worth;
                    cold &= !rooms.get(r).warm[0];
                }
            }
            if (cold && Integer.bitCount(set) <= most && bricks <= kept[0] && beams <= kept[1] && worth > best) {
                best = worth;
                mendSet = set;
            }
        }
        return best;
    }

    int mendTold() {
        return mendSet;
    }

    int mend(int r) {
        if (!in(r, 0, rooms.size() - 1)) {
            return NONE;
        }
        Room room = rooms.get(r);
        if (room.warm[0]) {
            return STATE;
        }
        if (room.bricks > kept[0] || room.beams > kept[1]) {
            return -6;
        }
        room.warm[0] = true;
        kept[0] -= room.bricks;
        kept[1] -= room.beams;
        return kept[0];
    }

    int roomTold(int r, int what) {
        if (!in(r, 0, rooms.size() - 1)) {
            return NONE;
        }
        Room room = rooms.get(r);
        return in(what, 0, 2) ? new int[] {room.cell, room.warm[0] ? 1 : 0, room.worth}[what] : BAD;
    }

    // ---- shells

    int raid(int from, int side, int length, int shells) {
        if (!isCell(from)) {
            return NONE;
        }
        if (!in(side, 0, 3) || !in(length, 1, 10) || !in(shells, 1, 9)) {
            return BAD;
        }
        if (raids.size() == 8) {
            return FULL;
        }
        List<Integer> over = new ArrayList<>();
        for (int c = from; c >= 0 && over.size() < length; c = onSide(c, side)) {
            over.add(c);
        }
        raids.add(new Raid(over, new int[] {shells}));
        return raids.size() - 1;
    }

    private int leftOver(int cell) {
        return raids.stream().filter(r -> r.cells.contains(cell)).mapToInt(r -> r.left[0]).sum();
    }

    int probe(int cell, int shells) {
        if (!isCell(cell)) {
            return NONE;
        }
        if (!in(shells, 0, 9)) {
            return BAD;
        }
        if (probed[cell]) {
            return STATE;
        }
        if (shells > leftOver(cell)) {
            return -6;
        }
        probed[cell] = true;
        for (int i = 0; i < shells; i++) {
            raids.stream().filter(r -> r.cells.contains(cell) && r.left[0] > 0).findFirst().orElseThrow().left[0]--;
        }
        return leftOver(cell);
    }

    long likely(int cell, int part) {
        if (!isCell(cell) || !in(part, 0, 1)) {
            return NO;
        }
        return fraction(cell)[part];
    }

    private long[] fraction(int cell) {
        long above = 0;
        long below = 1;
        for (Raid raid : raids) {
            long open = raid.cells.stream().filter(c -> !probed[c]).count();
            if (!probed[cell] && raid.cells.contains(cell)) {
                above = above * open + raid.left[0] * below;
                below *= open;
            }
        }
        long a = above;
        long b = below;
        while (b != 0) {
            long rest = a % b;
            a = b;
            b = rest;
        }
        return new long[] {above / a, below / a};
    }

    int next() {
        int best = NONE;
        long[] greatest = {0, 1};
        for (int c = 0; c < 100; c++) {
            long[] here = fraction(c);
            if (here[0] * greatest[1] > greatest[0] * here[1]) {
                greatest = here;
                best = c;
            }
        }
        return best;
    }

    // ---- lots

    int paper(int lot, int owner, int from) {
        if (!in(lot, 0, 11) || !in(owner, 0, people.size() - 1)) {
            return NONE;
        }
        if (!in(from, 0, 2000)) {
            return BAD;
        }
        if (papers.size() == 24) {
            return FULL;
        }
        papers.add(new Paper(lot, owner, from, day, new int[] {Integer.MAX_VALUE}));
        return papers.size() - 1;
    }

    int burn(int k) {
        if (!in(k, 0, papers.size() - 1)) {
            return NONE;
        }
        if (papers.get(k).burnt[0] != Integer.MAX_VALUE) {
            return STATE;
        }
        papers.get(k).burnt[0] = day;
        return 1;
    }

    int owner(int lot, int on, int known) {
        if (!in(lot, 0, 11)) {
            return -5;
        }
        if (!in(on, 0, 2000) || !in(known, 0, day)) {
            return BAD;
        }
        Paper best = null;
        for (Paper p : papers) {
            if (p.lot == lot && p.from <= on && p.told <= known && p.burnt[0] > known) {
                best = best == null || p.from >= best.from ? p : best;
            }
        }
        return best == null ? NONE : best.owner;
    }

    int heirs(int lot, int on, int known) {
        int p = owner(lot, on, known);
        if (p < 0 || !people.get(p).dead) {
            return p < 0 ? p : 1 << p;
        }
        int bits = 0;
        for (int q = 0; q < people.size(); q++) {
            bits |= !people.get(q).dead && people.get(q).kin == people.get(p).kin ? 1 << q : 0;
        }
        return bits;
    }

    // ---- ahead

    long beside(int n, int what) {
        if (!in(n, 1, 60) || !in(what, 0, 3) || day + n > 2000) {
            return NO;
        }
        Model m = aside();
        m.run(n);
        int hurt = m.people.stream().mapToInt(p -> p.hurt).sum();
        return new int[] {m.count(1), m.kept[0] - kept[0], m.count(8) - count(8), hurt}[what];
    }

    int clear(int cell, int n) {
        if (!isCell(cell)) {
            return NONE;
        }
        if (!in(n, 1, 60)) {
            return BAD;
        }
        Model m = aside();
        for (int d = 0; d <= n; d++) {
            if (m.loads[cell] == 0) {
                return d;
            }
            m.playDay();
        }
        return STATE;
    }

    int image() {
        image = aside();
        rooms.forEach(r -> image.rooms.add(new Room(0, 0, 0, 0, r.warm.clone())));
        return day;
    }

    int back() {
        if (image == null) {
            return STATE;
        }
        List<Person> came = people;
        List<Wall> stood = walls;
        keep(image);
        for (int p = 0; p < came.size(); p++) {
            if (p < people.size()) {
                people.get(p).row = came.get(p).row;
            } else {
                Person since = came.get(p).copy();
                since.home = -1;
                since.hurt = 0;
                since.worked = 0;
                since.given = 0;
                since.dead = false;
                people.add(since);
            }
        }
        for (int k = walls.size(); k < stood.size(); k++) {
            Wall since = stood.get(k).copy();
            since.stands = 0;
            since.down = true;
            walls.add(since);
        }
        for (int r = 0; r < rooms.size(); r++) {
            rooms.get(r).warm[0] = r < image.rooms.size() && image.rooms.get(r).warm[0];
        }
        return day;
    }

    // ---- the host

    int sheet(int s, int sort, int n) {
        if (!in(s, 0, 3) || !in(sort, -1, 2) || sort != -1 && n > 40) {
            return BAD;
        }
        if (sort != -1 && n < 0) {
            return -14;
        }
        sheets[s] = sort == -1 ? null : new int[n];
        sorts[s] = sort;
        return 1;
    }

    int cell(int s, int i, int v) {
        if (!in(s, 0, 3)) {
            return BAD;
        }
        if (sheets[s] == null) {
            return -11;
        }
        if (!in(i, 0, sheets[s].length - 1)) {
            return -12;
        }
        sheets[s][i] = sorts[s] == 0 ? (byte) v : sorts[s] == 1 ? (short) v : v;
        return 1;
    }

    int copy(int s, int i, int other, int j, int n) {
        if (!in(s, 0, 3) || !in(other, 0, 3)) {
            return BAD;
        }
        if (sheets[s] == null || sheets[other] == null) {
            return -11;
        }
        if (sorts[s] != sorts[other]) {
            return -13;
        }
        if (n < 0 || i < 0 || j < 0 || (long) i + n > sheets[s].length || (long) j + n > sheets[other].length) {
            return -12;
        }
        int[] were = sheets[s].clone();
        for (int k = 0; k < n; k++) {
            sheets[other][j + k] = were[i + k];
        }
        return n;
    }

    int people(int s, int sort, int from, int n) {
        if (!in(s, 0, 3) || !in(sort, 0, 2) || !in(n, 0, 10)) {
            return BAD;
        }
        if (sheets[s] == null) {
            return -11;
        }
        if (sorts[s] != sort) {
            return -13;
        }
        int came = 0;
        for (int k = 0; k < n; k++) {
            long at = from + 4L * k;
            if (at < 0 || at + 4 > sheets[s].length) {
                return -12;
            }
            int[] four = Arrays.copyOfRange(sheets[s], (int) at, (int) at + 4);
            came += person(four[0], four[1], four[2], four[3]) >= 0 ? 1 : 0;
        }
        return came;
    }

    int taken(int cell, int kind) {
        if (!in(kind, 0, 5)) {
            return BAD;
        }
        if (!isCell(cell)) {
            return -12;
        }
        if (!ruins.containsKey(cell)) {
            return cell == tip ? -13 : -11;
        }
        int is = ruins.get(cell);
        int[] above = {-1, 0, 0, 1, 2, 1};
        for (int k = is; k >= 0; k = above[k]) {
            if (k == kind) {
                return kind(is)[0];
            }
        }
        return -13;
    }
}
