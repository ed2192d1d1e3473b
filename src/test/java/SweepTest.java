/** The policy sweep; its FORM is in FormTest. */
public final class SweepTest {
    public static void main(String[] args) {
        Runs runs = new Runs();
        runs.run("those that are not KEPT are free, the others stay", Runs.KINDS, """
            policy sweep 20 first = 20
            make 0 0 = 0; make 1 1 = 1; make 2 2 = 2; make 0 3 = 3; put 1 1 9 = 0; hold 3 true = 1; root 3 -1 = 3
            root 0 -1 = 0; root 2 -1 = 2; block 0 0 = 11; clean = 4
            about 1 0 = 3; about 3 0 = 8; get 1 1 = 9; block 0 0 = 0; block 0 1 = 3; block 1 0 = 7; block 1 1 = 1; block 2 0 = 11
            count 6 = 0; count 7 = 4; count 5 = 1; count 10 = 0; count 11 = 0; count 12 = 0; count 13 = 0
            """);
        runs.run("cleaned, then tried once more", Runs.KINDS, """
            policy sweep 16 first = 16
            row true 6 0 = 0; row false 7 1 = 1; count 3 = 15
            make 0 2 = -1; count 5 = 1; count 7 = 0; count 4 = 2; root 2 -1 = -1
            count 8 = 4                      # two makes, and two looks at the word at 15
            wish 0 = 1; weak 0 1 = -1; root 0 -1 = 0; root 1 -1 = 1
            make 3 2 = 2; about 2 0 = 7; count 5 = 2; count 7 = 8; count 9 = 1; about 0 0 = 0; strong 0 3 = -1
            make 0 3 = -1; granted 0 = 0; make 0 3 = -1; count 9 = 0
            make 0 0 = -1                    # the root has what it had while it is cleaned
            root 0 -1 = 0; make 0 0 = 3; about 3 0 = 0; count 6 = 0
            """);
        runs.run("a BLOCK that a cleaning joins is room", Runs.KINDS, """
            policy sweep 16 best = 16; make 1 0 = 0; make 1 1 = 1; make 1 2 = 2; make 1 3 = 3; root 1 -1 = 1; root 2 -1 = 2
            row false 7 4 = 4; about 4 0 = 4; count 5 = 1
            """);
        runs.run("the greatest ROOM", fill(), """
            row false 35 0 = 24; about 24 0 = 1464; put 24 34 7 = 0; get 24 34 = 7; row false 0 1 = -1; count 3 = 1500
            block 0 0 = !IndexOutOfBoundsException; root 0 -1 = 24; clean = 36; block 0 0 = 1464; block 0 1 = 36
            """);
        runs.finish();
    }

    private static String fill() {
        StringBuilder rows = new StringBuilder("policy sweep 1500 first = 1500\n");
        for (int n = 0; n < 24; n++) {
            rows.append("row false 60 0 = ").append(n).append("; hold ").append(n).append(" true = 1\n");
        }
        return rows.toString();
    }
}
