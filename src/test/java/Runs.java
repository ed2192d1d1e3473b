import java.util.ArrayList;
import java.util.List;

/**
 * Plays runs of calls that are written as text, and prints each call whose answer is not the one that is due.
 *
 * <p>Calls stand in lines, or in one line with ';' between: "make 0 3 = 5" is due to answer 5, "get 5 9 =
 * !IndexOutOfBoundsException" to throw exactly that. "policy steps 40 first 1 news = 40" feeds the text, ends it and
 * calls heap. Behind '#' is a remark. A run begins with a new house.
 */
final class Runs {
    private int wrong;
    private String name = "";
    private CollectorHouse house = new CollectorHouse();

    /** Kinds that most runs use: 0 has two references, 1 one and two ints, 2 no words, 3 eight references. */
    static final String KINDS = "kind 2 3 = 0; kind 3 1 = 1; kind 0 0 = 2; kind 8 255 = 3\n";

    void run(String runName, String... texts) {
        name = runName;
        house = new CollectorHouse();
        for (String text : texts) {
            goOn(text);
        }
    }

    void goOn(String text) {
        for (String line : text.split("\n")) {
            int remark = line.indexOf('#');
            String calls = remark < 0 ? line : line.substring(0, remark);
            for (String call : calls.split(";")) {
                if (!call.isBlank()) {
                    due(call.strip());
                }
            }
        }
    }

    /** Ends the program: with code 1, if an answer was not the one that was due. */
    void finish() {
        System.out.println(wrong == 0 ? "all answers are as due" : wrong + " answers are not as due");
        if (wrong != 0) {
            System.exit(1);
        }
    }

    private void due(String call) {
        int sign = call.lastIndexOf('=');
        String what = call.substring(0, sign).strip();
        String want = call.substring(sign + 1).strip();
        expect(what, answer(house, what), want);
    }

    void expect(String what, String got, String want) {
        if (!got.equals(want)) {
            wrong++;
            System.out.println(name + ": " + what + " answered " + got + ", due is " + want);
        }
    }

    /** The answer as text; an exception as '!' and its class, and what it says: the machine's own say something. */
    static String answer(CollectorHouse house, String call) {
        try {
            return String.valueOf(call.startsWith("policy") ? policy(house, call.substring(6)) : number(house, call));
        } catch (RuntimeException e) {
            String says = e.getMessage() == null ? "" : " " + e.getMessage();
            return "!" + e.getClass().getSimpleName() + says;
        }
    }

    /** What stands behind the first blank, up to the end, is the text. */
    private static int policy(CollectorHouse house, String text) {
        String bytes = text.startsWith(" ") ? text.substring(1) : text;
        feed(house, bytes);
        return house.heap();
    }

    static void feed(CollectorHouse house, String bytes) {
        house.end(0);
        for (int from = 0; from < bytes.length(); from += 20) {
            int[] five = new int[5];
            for (int i = 0; i < 20; i++) {
                int one = from + i < bytes.length() ? bytes.charAt(from + i) : 0;
                five[i / 4] = five[i / 4] << 8 | one;
            }
            house.feed(five[0], five[1], five[2], five[3], five[4]);
        }
        house.end(bytes.length());
    }

    private static int number(CollectorHouse house, String call) {
        String[] words = call.split(" +");
        List<Integer> v = new ArrayList<>();
        for (int i = 1; i < words.length; i++) {
            v.add(words[i].equals("true") ? 1 : words[i].equals("false") ? 0 : Integer.parseInt(words[i]));
        }
        switch (words[0]) {
            case "feed": return house.feed(v.get(0), v.get(1), v.get(2), v.get(3), v.get(4));
            case "end": return house.end(v.get(0));
            case "kind": return house.kind(v.get(0), v.get(1));
            case "heap": return house.heap();
            case "make": return house.make(v.get(0), v.get(1));
            case "row": return house.row(v.get(0) != 0, v.get(1), v.get(2));
            case "put": return house.put(v.get(0), v.get(1), v.get(2));
            case "link": return house.link(v.get(0), v.get(1), v.get(2));
            case "get": return house.get(v.get(0), v.get(1));
            case "root": return house.root(v.get(0), v.get(1));
            case "weak": return house.weak(v.get(0), v.get(1));
            case "strong": return house.strong(v.get(0), v.get(1));
            case "hold": return house.hold(v.get(0), v.get(1) != 0);
            case "wish": return house.wish(v.get(0));
            case "granted": return house.granted(v.get(0));
            case "clean": return house.clean();
            case "step": return house.step(v.get(0));
            case "about": return house.about(v.get(0), v.get(1));
            case "block": return house.block(v.get(0), v.get(1));
            case "count": return house.count(v.get(0));
            default: throw new Error("no such call: " + call);
        }
    }
}
