import java.lang.reflect.InvocationTargetException;
import java.lang.reflect.Method;
import java.lang.reflect.Modifier;
import java.util.ArrayList;
import java.util.Arrays;
import java.util.Comparator;
import java.util.List;
import java.util.Random;

/** LANGUAGE.md, rules 7 and 13: no call throws, for any numbers in any state, and the same calls give the same answers. */
public final class WildTest {
    private static final int RUNS = 400;
    private static final int CALLS = 1500;
    private static final int[] EDGES = {
        Integer.MIN_VALUE, Integer.MIN_VALUE + 1, -2000000000, -720000, -1440, -101, -100, -2, -1, 0, 1, 2, 3, 4, 5, 6, 7, 9, 10,
        11, 12, 23, 24, 29, 30, 39, 40, 59, 60, 99, 100, 110, 199, 299, 300, 511, 512, 999, 1000, 1001, 1440, 1999, 2000, 6240,
        9999, 10000, 14640, 14641, 719999, 720000, 720001, 99999, 100000, 99999999, 1000000, Integer.MAX_VALUE,
    };
    private static final String TEXTS = "yywnpt0123459()()?::+-*/%<=>";
    private static final Check CHECK = new Check();

    private final Random chance;
    private final HackneyStands x = new HackneyStands();
    private final List<Method> methods = new ArrayList<>();
    private long answers;
    private int thrown;

    private WildTest(int seed) {
        chance = new Random(seed);
        for (Method method : HackneyStands.class.getDeclaredMethods()) {
            if (Modifier.isPublic(method.getModifiers())) {
                methods.add(method);
            }
        }
        methods.sort(Comparator.comparing(Method::getName));
    }

    public static void main(String[] args) throws IllegalAccessException {
        int[] most = new int[13];
        for (int run = 0; run < RUNS; run++) {
            CHECK.promise("run " + run);
            WildTest test = new WildTest(run);
            long answers = test.play();
            CHECK.due("the same calls again", new WildTest(run).play() == answers ? 1 : 0, 1);
            for (int what = 0; what < most.length; what++) {
                most[what] = Math.max(most[what], test.x.count(what));
            }
        }
        System.out.println("most of each count: " + Arrays.toString(most));
        CHECK.promise("what the runs come to");
        for (int what = 0; what < most.length; what++) {
            CHECK.due("count(" + what + ") is some time above 5", most[what] > 5 ? 1 : 0, 1);
        }
        CHECK.end();
    }

    private long play() throws IllegalAccessException {
        if (chance.nextInt(4) > 0) {
            begin();
        }
        for (int i = 0; i < CALLS; i++) {
            Method method = methods.get(chance.nextInt(methods.size()));
            Object[] numbers = new Object[method.getParameterCount()];
            int luck = chance.nextInt(4);
            for (int j = 0; j < numbers.length; j++) {
                numbers[j] = number(luck);
            }
            make(method, numbers);
        }
        CHECK.due("calls that throw", thrown, 0);
        return answers;
    }

    private int number(int luck) {
        if (luck == 0) {
            return chance.nextInt();
        }
        return luck == 1 ? EDGES[chance.nextInt(EDGES.length)] : chance.nextInt(luck == 2 ? 5 : 1500);
    }

    private void make(Method method, Object[] numbers) throws IllegalAccessException {
        try {
            answers = answers * 31 + (Integer) method.invoke(x, numbers);
        } catch (InvocationTargetException e) {
            thrown++;
            CHECK.due(method.getName() + Arrays.toString(numbers) + " throws " + e.getCause(), 1, 0);
        }
    }

    /** A city in which most of what wild numbers ask for is there. */
    private void begin() {
        for (int i = 0; i < 24; i++) {
            x.corner();
            x.street(100 * chance.nextInt(i + 1) + i, 1 + chance.nextInt(2000), chance.nextInt(2));
        }
        for (int i = 0; i < 12; i++) {
            x.stand(chance.nextInt(24), 1 + chance.nextInt(10));
        }
        for (int i = 0; i < 30; i++) {
            x.coach(1 + 333 * i, chance.nextInt(24));
            x.licence(i, 0, i);
            x.look(i, 9999);
            x.go(i, chance.nextInt(12));
        }
        x.minutes(1440);
        for (int i = 0; i < 40; i++) {
            law();
            x.call(chance.nextInt(24), chance.nextInt(24), 1000 * (1 + chance.nextInt(6)) + chance.nextInt(241));
            x.complain(chance.nextInt(30), chance.nextInt(1000));
            x.lost(chance.nextInt(2), 14640, 0, 1440 + chance.nextInt(300));
            x.found(chance.nextInt(2), chance.nextInt(30));
        }
    }

    /** A law of signs by chance: most have a fault, and what they leave must do no harm. */
    private void law() {
        int length = chance.nextInt(3) == 0 ? 1 + chance.nextInt(5) : chance.nextInt(161);
        for (int i = 0; i < length; i++) {
            x.feed(1, TEXTS.charAt(chance.nextInt(TEXTS.length())));
        }
        x.law(chance.nextInt(3), chance.nextInt(3));
        x.feed(3, 'y' + 256 * "+-*/%<=>".charAt(chance.nextInt(8)) + 65536 * 'w');
        x.law(chance.nextInt(3), 0);
    }
}
