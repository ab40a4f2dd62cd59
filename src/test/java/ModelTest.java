import java.lang.reflect.InvocationTargetException;
import java.lang.reflect.Method;
import java.util.ArrayList;
import java.util.Arrays;
import java.util.LinkedHashMap;
import java.util.List;
import java.util.Map;
import java.util.Random;

/**
 * Runs of at most 512 calls on new objects, each answer held against the Model's. The numbers are mostly such as the
 * document takes and lie close together, so that the parts meet. The seed is fixed, so each run is the same.
 */
public final class ModelTest {
    private static final int RUNS = 300;
    private static final int CALLS = 512;
    private static final int[] NEAR = {44, 45, 54, 44, 45, 34, 44, 0, 1, 10, 99, 98};
    private static final int CELL = 1000, PERSON = 1001, WALL = 1002;
    private static final String[] LINES = {"work 9 if worked<40;", "work 14;", "work 3 if hurt>2;", "card 2 if hurt>0;",
        "card 12;", "card 3 if kin=1&age>20;", "stay 1 if wind>6&wet<3;", "stay 2 if day=9;", "stay 1 if age<10;",
        "work 7 if strong>4&hurt=0&day<30;", "card 1", "work 5 if", "stay 0;", "x"};

    /** What each parameter takes: two numbers, its bounds, or one of CELL, PERSON, WALL. */
    private static final Map<String, int[][]> TAKES = new LinkedHashMap<>();

    static {
        int[] cell = {CELL}, person = {PERSON}, wall = {WALL}, sheet = {0, 3}, days = {1, 60};
        takes("ruin", cell, to(0, 5), to(0, 400));
        takes("person", cell, to(1, 9), to(0, 99), to(0, 3));
        takes("moves", person, cell);
        takes("wall", cell, to(0, 3), to(1, 60));
        takes("weather", to(0, 9), to(0, 9));
        takes("tip", new int[] {CELL});
        takes("row", to(0, 3), sheet, cell, cell);
        takes("rail", to(0, 2), sheet, to(0, 20));
        takes("room", cell, to(0, 90), to(0, 6), to(1, 9));
        takes("order");
        takes("force", to(-1, 5));
        takes("says", person, to(0, 2));
        takes("run", to(1, 6));
        takes("cellTold", cell, to(0, 2));
        takes("kindTold", to(0, 5), to(0, 3));
        takes("personTold", person, to(0, 6));
        takes("rowTold", to(0, 3), to(0, 2));
        takes("railTold", to(0, 2), to(0, 1));
        takes("wallTold", wall, to(0, 2));
        takes("count", to(0, 13));
        takes("pull", wall);
        takes("pulls", sheet);
        takes("pullTold", to(0, 5));
        takes("mends", to(0, 12));
        takes("mendTold");
        takes("mend", to(0, 11));
        takes("roomTold", to(0, 11), to(0, 2));
        takes("raid", cell, to(0, 3), to(1, 10), to(1, 9));
        takes("probe", cell, to(0, 3));
        takes("likely", cell, to(0, 1));
        takes("next");
        takes("paper", to(0, 1), person, to(0, 20));
        takes("burn", to(0, 5));
        takes("owner", to(0, 1), to(0, 50), to(0, 20));
        takes("heirs", to(0, 1), to(0, 50), to(0, 20));
        takes("beside", days, to(0, 3));
        takes("clear", cell, days);
        takes("image");
        takes("back");
        takes("sheet", sheet, to(-1, 2), to(0, 40));
        takes("cell", sheet, to(0, 12), to(0, 99));
        takes("copy", to(0, 1), to(0, 4), to(0, 1), to(0, 4), to(0, 4));
        takes("people", sheet, to(0, 2), to(0, 12), to(0, 10));
        takes("taken", cell, to(0, 5));
    }

    private final RubbleCity x = new RubbleCity();
    private final Model model = new Model();
    private final Random random;
    private final List<String> calls = new ArrayList<>();
    private boolean wrong = false;

    private ModelTest(Random random) {
        this.random = random;
    }

    public static void main(String[] args) {
        for (int run = 0; run < RUNS; run++) {
            new ModelTest(new Random(46 + run)).play();
        }
        // Some begin close to the last day.
        for (int run = 0; run < RUNS / 10; run++) {
            ModelTest late = new ModelTest(new Random(4600 + run));
            for (int i = 0; i < 33; i++) {
                late.call("run", 60);
            }
            late.play();
        }
        Check.end();
    }

    private static int[] to(int least, int most) {
        return new int[] {least, most};
    }

    private static void takes(String name, int[]... bounds) {
        TAKES.put(name, bounds);
    }

    private void play() {
        List<String> names = new ArrayList<>(TAKES.keySet());
        String[] first = {"ruin", "person", "person", "person", "wall", "wall", "room", "raid", "paper", "weather"};
        for (int i = random.nextInt(60); i > 0; i--) {
            any(first[random.nextInt(first.length)]);
        }
        while (calls.size() < CALLS - 20 && !wrong) {
            switch (random.nextInt(24)) {
                case 0 -> row();
                case 1 -> rail();
                case 2 -> pulls();
                case 3 -> feed();
                case 4 -> call("run", 1 + random.nextInt(3));
                case 5 -> fours();
                case 6 -> call("mend", random.nextInt(Math.max(1, x.count(12))));
                case 7 -> call("pull", random.nextInt(Math.max(1, x.count(13))));
                case 8 -> wallOver44(random.nextInt(4));
                default -> any(names.get(random.nextInt(names.size())));
            }
        }
    }

    private void any(String name) {
        int[][] bounds = TAKES.get(name);
        int[] told = new int[bounds.length];
        for (int i = 0; i < told.length; i++) {
            told[i] = number(bounds[i]);
        }
        call(name, told);
    }

    private int number(int[] bounds) {
        int most = bounds.length == 2 ? bounds[1] : bounds[0] == PERSON ? 23 : bounds[0] == WALL ? 15 : 99;
        int least = bounds.length == 2 ? bounds[0] : 0;
        if (random.nextInt(25) == 0) {
            return new int[] {least - 1, most + 1, Integer.MIN_VALUE, Integer.MAX_VALUE}[random.nextInt(4)];
        }
        if (bounds[0] == CELL && random.nextInt(8) > 0) {
            return NEAR[random.nextInt(NEAR.length)];
        }
        if ((bounds[0] == PERSON || bounds[0] == WALL) && random.nextInt(8) > 0) {
            return random.nextInt(Math.max(1, x.count(bounds[0] == PERSON ? 7 : 13)));
        }
        return least + random.nextInt(most - least + 1);
    }

    private void sheetOf(int s, int n, int below) {
        call("sheet", s, random.nextInt(3), n);
        for (int i = 0; i < n; i++) {
            call("cell", s, i, random.nextInt(below));
        }
    }

    /** Some die only where walls fall on one cell again and again. */
    private void wallOver44(int side) {
        call("wall", new int[] {34, 43, 54, 45}[side], side, 1 + random.nextInt(40));
    }

    private void pulls() {
        int s = random.nextInt(4);
        sheetOf(s, 1 + random.nextInt(3), Math.max(1, x.count(13)));
        call("pulls", s);
        for (int i = 0; i < 4; i++) {
            call("pullTold", i);
        }
    }

    private void fours() {
        int s = random.nextInt(4);
        int sort = random.nextInt(3);
        int from = random.nextInt(2);
        int n = 1 + random.nextInt(2);
        call("sheet", s, sort, from + 4 * n - random.nextInt(2));
        for (int i = 0; i < from + 4 * n; i++) {
            call("cell", s, i, random.nextInt(12));
        }
        call("people", s, sort, from, n + random.nextInt(2));
    }

    private void row() {
        int s = random.nextInt(4);
        sheetOf(s, random.nextInt(4), Math.max(1, x.count(7)));
        int from = NEAR[random.nextInt(6)];
        int[] steps = {1, -1, 10, -10};
        call("row", random.nextInt(4), s, from, from + steps[random.nextInt(4)]);
    }

    private void rail() {
        int s = random.nextInt(4);
        int n = random.nextInt(5);
        int c = NEAR[random.nextInt(6)];
        int[] steps = {1, -1, 10, -10};
        call("sheet", s, random.nextInt(3), n);
        for (int i = 0; i < n; i++) {
            call("cell", s, i, c);
            c += steps[random.nextInt(4)];
        }
        call("rail", random.nextInt(3), s, random.nextInt(5));
    }

    private void feed() {
        String text = LINES[random.nextInt(LINES.length)];
        for (int i = 0; i < text.length(); i += 8) {
            int n = Math.min(8, text.length() - i);
            long w = random.nextInt();
            for (int j = 0; j < n; j++) {
                w = w << 8 | text.charAt(i + j);
            }
            compare("feed", new Object[] {w, n});
        }
        if (random.nextInt(3) == 0) {
            call("order");
            call("force", x.count(9) - 1);
        }
    }

    private void call(String name, int... told) {
        compare(name, Arrays.stream(told).boxed().toArray());
    }

    /** From the first wrong answer on a run tells nothing more. */
    private void compare(String name, Object[] told) {
        if (wrong) {
            return;
        }
        calls.add(name + Arrays.toString(told));
        long got = answer(x, name, told);
        long want = answer(model, name, told);
        if (got != want) {
            wrong = true;
            Check.due(String.join("; ", calls), got, want);
        }
    }

    private static long answer(Object city, String name, Object[] told) {
        try {
            for (Method method : city.getClass().getDeclaredMethods()) {
                if (method.getName().equals(name) && method.getParameterCount() == told.length
                        && !java.lang.reflect.Modifier.isPrivate(method.getModifiers())) {
                    return ((Number) method.invoke(city, told)).longValue();
                }
            }
        } catch (IllegalAccessException | InvocationTargetException failed) {
            throw new IllegalStateException(name + Arrays.toString(told), failed);
        }
        throw new IllegalStateException(name);
    }
}
