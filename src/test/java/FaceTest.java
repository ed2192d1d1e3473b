import java.lang.reflect.Constructor;
import java.lang.reflect.Method;
import java.lang.reflect.Modifier;
import java.util.ArrayList;
import java.util.List;
import java.util.Set;
import java.util.TreeSet;

/**
 * The public face: just the document's methods, and, whatever the arguments are, no call throws but what the face names
 * for it (by a throw of its own: the machine's exceptions say something).
 */
public final class FaceTest {
    private static final String[] FACE = {
        "feed int int int int int: IndexOutOfBoundsException",
        "end int: IllegalArgumentException",
        "kind int int: IllegalArgumentException IllegalStateException",
        "heap:",
        "make int int: IllegalArgumentException IllegalStateException",
        "row boolean int int: IllegalArgumentException IllegalStateException",
        "put int int int: IllegalStateException NoSuchElementException IndexOutOfBoundsException ClassCastException",
        "link int int int: IllegalStateException NoSuchElementException IndexOutOfBoundsException ClassCastException",
        "get int int: IllegalStateException NoSuchElementException IndexOutOfBoundsException",
        "root int int: IllegalArgumentException IllegalStateException NoSuchElementException",
        "weak int int: IllegalArgumentException IllegalStateException NoSuchElementException",
        "strong int int: IllegalArgumentException IllegalStateException",
        "hold int boolean: IllegalStateException NoSuchElementException UnsupportedOperationException",
        "wish int: IllegalStateException NoSuchElementException",
        "granted int: IllegalArgumentException IllegalStateException",
        "clean: IllegalStateException",
        "step int: IllegalArgumentException IllegalStateException UnsupportedOperationException",
        "about int int: IllegalArgumentException IllegalStateException NoSuchElementException",
        "block int int: IllegalArgumentException IllegalStateException UnsupportedOperationException"
            + " IndexOutOfBoundsException",
        "count int: IllegalArgumentException IllegalStateException"
    };
    private static final int[] INTS = {
        Integer.MIN_VALUE, -1000, -65, -64, -33, -32, -2, -1, 0, 1, 2, 3, 8, 9, 13, 15, 16, 31, 32, 60, 63, 64, 511, 512,
        1000, 1501, 4499, 4500, Integer.MAX_VALUE - 1, Integer.MAX_VALUE
    };

    public static void main(String[] args) {
        Runs runs = new Runs();
        members(runs);
        for (String line : FACE) {
            String[] parts = line.split(":");
            Set<String> named = new TreeSet<>(List.of(parts.length > 1 ? parts[1].strip().split(" ") : new String[0]));
            for (String call : calls(parts[0].split(" "))) {
                check(runs, "no heap", new CollectorHouse(), call, named);
                for (String policy : Refused.POLICIES) {
                    check(runs, policy, Refused.setUp(policy), call, named);
                }
            }
        }
        runs.finish();
    }

    private static void members(Runs runs) {
        Set<String> due = new TreeSet<>();
        for (String line : FACE) {
            due.add(line.substring(0, line.indexOf(':')));
        }
        Set<String> there = new TreeSet<>();
        for (Method method : CollectorHouse.class.getDeclaredMethods()) {
            if (!Modifier.isPrivate(method.getModifiers())) {
                StringBuilder text = new StringBuilder(method.getName());
                for (Class<?> type : method.getParameterTypes()) {
                    text.append(' ').append(type.getSimpleName());
                }
                there.add(text.toString());
                runs.expect(method.getName(), method.getReturnType().getSimpleName(), "int");
            }
        }
        runs.expect("the methods", there.toString(), due.toString());
        runs.expect("the class", Modifier.toString(CollectorHouse.class.getModifiers()), "public final");
        runs.expect("fields that are not private", String.valueOf(CollectorHouse.class.getFields().length), "0");
        List<String> makers = new ArrayList<>();
        for (Constructor<?> maker : CollectorHouse.class.getDeclaredConstructors()) {
            makers.add(maker.toString());
        }
        runs.expect("the constructor", makers.toString(), "[public CollectorHouse()]");
    }

    /** The calls with each of the values in each place. */
    private static List<String> calls(String[] types) {
        List<String> all = new ArrayList<>(List.of(types[0]));
        for (int i = 1; i < types.length; i++) {
            List<String> longer = new ArrayList<>();
            for (String call : all) {
                for (String value : values(types[i], types.length)) {
                    longer.add(call + " " + value);
                }
            }
            all = longer;
        }
        return all;
    }

    private static List<String> values(String type, int types) {
        if (type.equals("boolean")) {
            return List.of("true", "false");
        }
        List<String> values = new ArrayList<>();
        // Of three arguments every second value, of five the first and the last: else there are too many calls.
        for (int i = 0; i < INTS.length; i += types > 4 ? 29 : types > 3 ? 2 : 1) {
            values.add(String.valueOf(INTS[i]));
        }
        return values;
    }

    private static void check(Runs runs, String state, CollectorHouse house, String call, Set<String> named) {
        String got = Runs.answer(house, call);
        if (got.startsWith("!") && !named.contains(got.substring(1))) {
            runs.expect(state + ": " + call, got, "an int or one of " + named);
        }
    }
}
