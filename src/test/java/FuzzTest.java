import java.lang.reflect.InvocationTargetException;
import java.lang.reflect.Method;
import java.util.ArrayList;
import java.util.Comparator;
import java.util.List;
import java.util.Random;
import java.util.Set;

/**
 * Runs of all calls with numbers near their bounds and far out: none throws, a refused call changes nothing, and
 * what only looks changes nothing. The seed is fixed, so each run is the same.
 */
public final class FuzzTest {
    private static final int[] EDGES = {Integer.MIN_VALUE, Integer.MAX_VALUE, -2, -1, 0, 1, 2, 3, 4, 9, 10, 12, 14, 16,
        24, 39, 40, 60, 61, 99, 100, 2000, 2001, 9999, 10000};
    private static final Set<String> LOOKING = Set.of("says", "cellTold", "kindTold", "personTold", "rowTold",
            "railTold", "wallTold", "count", "pullTold", "mendTold", "roomTold", "likely", "next", "owner", "heirs",
            "beside", "clear", "image", "taken");
    private static final String[] TEXTS = {"work 9 if worked<40;", "work 3;", "card 2 if hurt>0;", "card 1;",
        "stay 1 if wind>6&wet<3;", "stay 2 if day=9;", "x"};

    public static void main(String[] args) throws IllegalAccessException {
        List<Method> methods = new ArrayList<>();
        for (Method method : RubbleCity.class.getDeclaredMethods()) {
            if (java.lang.reflect.Modifier.isPublic(method.getModifiers())) {
                methods.add(method);
            }
        }
        methods.sort(Comparator.comparing(Method::toString));
        Random random = new Random(7);
        for (int run = 0; run < 150; run++) {
            play(methods, random);
        }
        Check.end();
    }

    private static void play(List<Method> methods, Random random) throws IllegalAccessException {
        RubbleCity x = new RubbleCity();
        boolean tame = random.nextBoolean();
        for (int call = 0; call < 300; call++) {
            if (random.nextInt(25) == 0) {
                Check.feed(x, TEXTS[random.nextInt(TEXTS.length)]);
            }
            if (random.nextInt(25) == 0) {
                helpful(x, random);
            }
            Method method = methods.get(random.nextInt(methods.size()));
            Class<?>[] types = method.getParameterTypes();
            Object[] told = new Object[types.length];
            StringBuilder text = new StringBuilder(method.getName());
            for (int i = 0; i < types.length; i++) {
                int number = number(random, tame);
                told[i] = types[i] == long.class ? (Object) ((long) number << random.nextInt(40)) : (Object) number;
                text.append(' ').append(told[i]);
            }
            String before = Check.all(x);
            try {
                long answer = ((Number) method.invoke(x, told)).longValue();
                boolean refused = isRefused(method.getName(), answer);
                if (refused || LOOKING.contains(method.getName())) {
                    Check.due("changed by " + text + " = " + answer, Check.all(x).equals(before) ? 0 : 1, 0);
                }
            } catch (InvocationTargetException thrown) {
                Check.due(text + " threw " + thrown.getCause(), 1, 0);
            }
        }
    }

    /** Below 0 is a refusal, but for what was none, a FAULT, and people that came ahead of an end. */
    private static boolean isRefused(String name, long answer) {
        boolean wasNone = answer == -1 && Set.of("tip", "force", "moves").contains(name);
        boolean fault = name.equals("order") && answer <= -100;
        return answer < 0 && !wasNone && !fault && !name.equals("people");
    }

    private static int number(Random random, boolean tame) {
        if (!tame && random.nextInt(5) == 0) {
            return EDGES[random.nextInt(EDGES.length)];
        }
        return random.nextInt(tame ? 5 : random.nextInt(2) == 0 ? 10 : 100);
    }

    private static void helpful(RubbleCity x, Random random) {
        int c = 11 + random.nextInt(60);
        x.ruin(c, random.nextInt(6), random.nextInt(300));
        x.person(c, 1 + random.nextInt(9), random.nextInt(99), random.nextInt(3));
        x.wall(c, random.nextInt(4), 1 + random.nextInt(40));
        Check.row(x, random.nextInt(4), c, c + 1, random.nextInt(24));
        Check.rail(x, random.nextInt(3), random.nextInt(21), c, c + 10);
        Check.pulls(x, random.nextInt(16), random.nextInt(16));
    }
}
