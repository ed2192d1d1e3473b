/** Promise 12: weak; WEAK 0 .. 15. */
public final class WeakTest {
    public static void main(String[] args) {
        Runs runs = new Runs();
        allSixteen(runs);
        runs.run("answers what it was, -1 NOTHING", Runs.KINDS, """
            policy slide 40 = 40; make 0 0 = 0; make 0 1 = 1
            weak 3 0 = -1; weak 3 0 = 0; weak 3 1 = 0; weak 3 -1 = 1; weak 3 -1 = -1
            """);
        runs.run("it leads to nothing", Runs.KINDS, """
            policy slide 40 = 40; make 0 0 = 0; weak 3 0 = -1; root 0 -1 = 0
            about 0 0 = !NoSuchElementException; weak 4 0 = !NoSuchElementException
            weak 3 -1 = 0                    # it is there, up to a cleaning
            """);
        runs.run("a cleaning makes it NOTHING", Runs.KINDS, """
            policy slide 40 = 40; make 0 0 = 0; make 0 1 = 1; weak 0 0 = -1; weak 15 0 = -1; weak 7 1 = -1
            root 0 -1 = 0; clean = 3; weak 0 -1 = -1; weak 15 -1 = -1; weak 7 -1 = 1
            """);
        runs.run("i 0 .. 15", Runs.KINDS, """
            policy slide 40 = 40; make 0 0 = 0
            weak -1 0 = !IllegalArgumentException; weak 16 0 = !IllegalArgumentException
            weak -2147483648 -1 = !IllegalArgumentException; weak 2147483647 -1 = !IllegalArgumentException
            weak 0 0 = -1; weak 15 0 = -1
            """);
        runs.run("in this order", Runs.KINDS, """
            weak 16 9 = !IllegalArgumentException; weak 0 9 = !IllegalStateException
            policy slide 40 = 40; weak 16 9 = !IllegalArgumentException; weak 0 9 = !NoSuchElementException
            weak 0 0 = !NoSuchElementException; weak 0 -2 = !NoSuchElementException
            weak 0 2147483647 = !NoSuchElementException; weak 0 -2147483648 = !NoSuchElementException; weak 0 -1 = -1
            """);
        Refused.withoutHeap(runs, "weak 0 -1 = !IllegalStateException", "weak 15 99 = !IllegalStateException",
            "weak 16 -1 = !IllegalArgumentException", "weak -1 -1 = !IllegalArgumentException");
        Refused.everywhere(runs, "weak 16 0 = !IllegalArgumentException", "weak -1 0 = !IllegalArgumentException",
            "weak 16 99 = !IllegalArgumentException", "weak 0 4 = !NoSuchElementException",
            "weak 1 10 = !NoSuchElementException", "weak 0 -2 = !NoSuchElementException");
        runs.finish();
    }

    private static void allSixteen(Runs runs) {
        StringBuilder all = new StringBuilder();
        for (int i = 0; i < 16; i++) {
            all.append("weak ").append(i).append(" -1 = -1; make 2 ").append(i).append(" = ").append(i).append("; ");
        }
        for (int i = 0; i < 16; i++) {
            all.append("weak ").append(i).append(' ').append(15 - i).append(" = -1; ");
        }
        for (int i = 0; i < 16; i++) {
            all.append("weak ").append(i).append(" -1 = ").append(15 - i).append("; ");
        }
        runs.run("all NOTHING at first, then one each", Runs.KINDS, "policy sweep 40 first = 40\n", all.toString());
    }
}
