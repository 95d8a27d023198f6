import java.lang.reflect.InvocationTargetException;
import java.lang.reflect.Method;
import java.lang.reflect.Modifier;
import java.util.ArrayList;
import java.util.Arrays;
import java.util.Comparator;
import java.util.List;
import java.util.Random;

/**
 * Any calls with any numbers in any order, 512 to an object: none throws, and two objects that are asked the same
 * answer the same, whatever another one was asked in between. Arguments: how many objects, a seed.
 */
public final class FuzzTest {
    private static final String[] PIECES = {"a send ", "a take ", "a show ", "a sure ", "b send ", "b take ", "b show ", "b sure ", ";", ";", ";",
        "g", "name 0", "name 1", "key 0", "key 1", "lot 0", "lot 1", "lot 2", "x 0", "x 1", "x 2", "x 3", "hole 0", "hole 1", "hole 2",
        "pair(", "seal(", "sum(", "raise(", ",", ")", " ", "x 4", "7", "\u00ff", "sum(sum(sum(sum(sum(sum("};
    private static final String[] WHOLE = {"a send raise(g,lot 0);a take x 0;a sure raise(x 0,lot 0);b take x 0;b send raise(g,lot 0);b sure raise(x 0,lot 0)",
        "a take pair(x 0,x 1);a send pair(x 0,x 1);b take pair(x 0,x 1);b send seal(x 0,x 1);a take x 2;a sure lot 0;b sure lot 0",
        "a send seal(lot 0,key 0);b take seal(x 0,key 0);b send hole 0;b sure hole 1;a sure lot 0;a send hole 2", "a sure hole 0",
        "a show lot 0;b show lot 0;a take x 0;a send sum(x 0);b take sum(x 0);b sure x 0", "lot 0", "x 0", "seal(pair(lot 0,key 1),key 0)", "key 0",
        "raise(g,lot 0,key 1)", "raise(x 0,lot 1)"};
    private final Random random;
    private final List<Method> calls = new ArrayList<>();
    private int wrong = 0;

    private FuzzTest(long seed) {
        random = new Random(seed);
        for (Method method : HandShakes.class.getDeclaredMethods()) {
            if (Modifier.isPublic(method.getModifiers())) {
                calls.add(method);
            }
        }
        calls.sort(Comparator.comparing(Method::getName));
    }

    public static void main(String[] args) throws IllegalAccessException {
        int objects = args.length > 0 ? Integer.parseInt(args[0]) : 600;
        FuzzTest test = new FuzzTest(args.length > 1 ? Long.parseLong(args[1]) : 11);
        HandShakes between = new HandShakes();
        for (int i = 0; i < objects && test.wrong == 0; i++) {
            between = test.life(between);
        }
        System.out.println(test.wrong == 0 ? objects + " lives of 512 calls without a fault" : test.wrong + " faults");
        if (test.wrong != 0) {
            System.exit(1);
        }
    }

    /** One life of calls; what it leaves may be asked in between of the next one's. */
    private HandShakes life(HandShakes between) throws IllegalAccessException {
        HandShakes one = new HandShakes();
        HandShakes other = new HandShakes();
        StringBuilder story = new StringBuilder();
        for (int left = 512; left > 0 && wrong == 0;) {
            if (random.nextInt(4) == 0) {
                String text = random.nextInt(3) == 0 ? pieces() : WHOLE[random.nextInt(WHOLE.length)];
                story.append("\n  text ").append(text);
                Tape.put(one, text);
                Tape.put(other, text);
                left -= text.length() / 20 + 3;
                left = both(calls.get(random.nextInt(5) == 0 ? random.nextInt(calls.size()) : reader()), one, other, story, left);
            } else {
                left = both(calls.get(random.nextInt(calls.size())), one, other, story, left);
            }
            answer(calls.get(random.nextInt(calls.size())), between, story);
        }
        return random.nextInt(3) == 0 ? new HandShakes() : one;
    }

    private int reader() {
        String name = Arrays.asList("protocol", "shelf", "have", "make", "same").get(random.nextInt(5));
        for (int i = 0; i < calls.size(); i++) {
            if (calls.get(i).getName().equals(name)) {
                return i;
            }
        }
        return 0;
    }

    private String pieces() {
        StringBuilder text = new StringBuilder();
        for (int i = random.nextInt(14); i >= 0; i--) {
            text.append(PIECES[random.nextInt(PIECES.length)]);
        }
        return text.toString();
    }

    private int number() {
        int[] edges = {Integer.MIN_VALUE, -2, 8, 12, 13, 19, 20, 30, 31, 60, 100, 101, 119, 120, 399, 400, 401, Integer.MAX_VALUE, random.nextInt()};
        return random.nextInt(5) == 0 ? edges[random.nextInt(edges.length)] : random.nextInt(7) - 1;
    }

    private int both(Method method, HandShakes one, HandShakes other, StringBuilder story, int left) throws IllegalAccessException {
        Object[] numbers = new Object[method.getParameterCount()];
        for (int i = 0; i < numbers.length; i++) {
            numbers[i] = number();
        }
        story.append("\n  ").append(method.getName()).append(Arrays.toString(numbers));
        Object first = asked(method, one, numbers, story);
        Object second = asked(method, other, numbers, story);
        if (first != null && !first.equals(second)) {
            fault("answered " + first + " and " + second, story);
        }
        return left - 1;
    }

    private void answer(Method method, HandShakes between, StringBuilder story) throws IllegalAccessException {
        Object[] numbers = new Object[method.getParameterCount()];
        Arrays.fill(numbers, 0);
        asked(method, between, numbers, story);
    }

    private Object asked(Method method, HandShakes of, Object[] numbers, StringBuilder story) throws IllegalAccessException {
        try {
            return method.invoke(of, numbers);
        } catch (InvocationTargetException thrown) {
            fault("threw " + thrown.getCause(), story);
            return null;
        }
    }

    private void fault(String what, StringBuilder story) {
        wrong++;
        System.out.println(what + " behind:" + story);
    }
}
