import java.util.ArrayList;
import java.util.List;

/** A call that throws changes nothing; and exceptions come in the document's order. */
public final class UnchangedTest {
    private static final String[] POLICIES = {
        "sweep 40 next", "slide 40", "halves 40", "ages 30 40 2 4", "counts 40 worst", "steps 40 first 1 picture",
        "steps 40 best 1 news", "regions 100 20 40"
    };

    // 25 and more words, so that steps is marking; 4 is not reached, 5 is in the row of wishes.
    private static final String[] SETUP = {
        "kind 2 3", "kind 3 1", "kind 0 0", "feed 1 2 3 4 5", "end 3", "make 0 0", "make 1 1", "make 2 2", "row false 14 3",
        "make 0 4", "make 0 5", "wish 5", "root 5 -1", "clean", "link 0 0 1", "put 1 1 77", "weak 0 1", "weak 1 4",
        "wish 1", "hold 3 true", "root 4 -1", "make 2 6", "make 2 7"
    };

    private static final String[] WRONG = {
        "end 4 = IllegalArgumentException", "end -1 = IllegalArgumentException",
        "kind 9 0 = IllegalArgumentException", "kind 1 2 = IllegalArgumentException",
        "make 3 0 = IllegalArgumentException", "make 0 16 = IllegalArgumentException",
        "row true 61 0 = IllegalArgumentException", "row true 60 -1 = IllegalArgumentException",
        "put 4 9 0 = NoSuchElementException", "put 1 3 0 = IndexOutOfBoundsException", "put 1 0 0 = ClassCastException",
        "put 0 1 5 = ClassCastException",
        "link 4 9 0 = NoSuchElementException", "link 1 1 99 = NoSuchElementException",
        "link 1 9 99 = NoSuchElementException", "link 1 9 0 = IndexOutOfBoundsException",
        "link 1 1 0 = ClassCastException", "get 99 9 = NoSuchElementException", "get 0 2 = IndexOutOfBoundsException",
        "root 16 99 = IllegalArgumentException", "root 0 99 = NoSuchElementException", "root 0 4 = NoSuchElementException",
        "weak 16 99 = IllegalArgumentException", "weak 0 4 = NoSuchElementException",
        "strong 16 0 = IllegalArgumentException", "strong 0 16 = IllegalArgumentException",
        "hold 4 false = NoSuchElementException", "hold 1 false = UnsupportedOperationException",
        "wish 4 = NoSuchElementException", "granted 16 = IllegalArgumentException",
        "step 1001 = IllegalArgumentException", "about 99 8 = IllegalArgumentException",
        "about 4 0 = NoSuchElementException", "block 0 2 = IllegalArgumentException",
        "count 14 = IllegalArgumentException", "count -1 = IllegalArgumentException"
    };

    // What throws IllegalStateException while there is no heap; a number out of range comes first.
    private static final String[] WITHOUT_HEAP = {
        "row true 3 0", "put 0 0 0", "link 0 0 0", "get 0 0", "root 0 9", "weak 0 9", "strong 0 0", "hold 0 true",
        "wish 0", "granted 0", "clean", "step 0", "about 9 0", "block 0 0", "count 2", "count 13"
    };

    public static void main(String[] args) {
        Runs runs = new Runs();
        for (String policy : POLICIES) {
            String before = state(setUp(policy));
            for (String wrong : WRONG) {
                String call = wrong.substring(0, wrong.indexOf(" = "));
                CollectorHouse house = setUp(policy);
                String got = Runs.answer(house, call);
                runs.expect(policy + ": " + call, got, "!" + wrong.substring(wrong.indexOf(" = ") + 3));
                runs.expect(policy + ": the state behind " + call, state(house), before);
            }
        }
        for (String call : WITHOUT_HEAP) {
            runs.expect("without a heap: " + call, Runs.answer(new CollectorHouse(), call), "!IllegalStateException");
        }
        tapeAlone(runs);
        runs.finish();
    }

    private static CollectorHouse setUp(String policy) {
        CollectorHouse house = new CollectorHouse();
        Runs.feed(house, policy);
        house.heap();
        for (String call : SETUP) {
            Runs.answer(house, call);
        }
        return house;
    }

    /** Everything that can be told of a house. */
    private static String state(CollectorHouse house) {
        List<String> all = new ArrayList<>();
        for (int what = 0; what < 14; what++) {
            tell(all, house, "count " + what);
        }
        for (int n = 0; n < 9; n++) {
            for (int what = 0; what < 8; what++) {
                tell(all, house, "about " + n + " " + what);
            }
            for (int i = 0; i < 4; i++) {
                tell(all, house, "get " + n + " " + i);
            }
        }
        for (int i = 0; i < 4; i++) {
            tell(all, house, "block " + i + " 0");
            tell(all, house, "block " + i + " 1");
        }
        for (int i = 0; i < 16; i++) {
            tell(all, house, "weak " + i + " -1");
            tell(all, house, "root " + i + " -1");
        }
        tell(all, house, "granted 0");
        tell(all, house, "granted 0");
        return String.join("; ", all);
    }

    private static void tell(List<String> all, CollectorHouse house, String call) {
        all.add(call + " = " + Runs.answer(house, call));
    }

    private static void tapeAlone(Runs runs) {
        CollectorHouse house = setUp("slide 40");
        String before = state(setUp("slide 40"));
        Runs.answer(house, "end 3");
        for (int i = 0; i < 4; i++) {
            Runs.answer(house, "feed 0 0 0 0 0");
        }
        runs.expect("feed", Runs.answer(house, "feed 0 0 0 0 0"), "!IndexOutOfBoundsException");
        runs.expect("end", Runs.answer(house, "end 83"), "83");
        Runs.answer(house, "end 3");
        runs.expect("the state behind feed", state(house), before);
    }
}
