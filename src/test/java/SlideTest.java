/** The policy slide. */
public final class SlideTest {
    public static void main(String[] args) {
        Runs runs = new Runs();
        slid(runs);
        wordsComeAlong(runs);
        top(runs);
        held(runs);
        wishes(runs);
        runs.finish();
    }

    private static void slid(Runs runs) {
        runs.run("each that is KEPT comes to the end of the one before it, 0 the first", Runs.KINDS, """
            policy slide 20 = 20
            count 11 = 0; make 0 0 = 0; make 1 1 = 1; make 0 2 = 2; make 2 3 = 3; count 11 = 11
            put 1 1 55 = 0; put 1 2 -1 = 0; link 1 0 2 = -1; link 2 0 3 = -1; link 2 1 2 = -1
            root 0 -1 = 0; clean = 3
            about 1 0 = 0; about 2 0 = 4; about 3 0 = 7; count 11 = 8; count 6 = 8; count 7 = 3; count 5 = 1
            get 1 1 = 55; get 1 2 = -1; get 1 0 = 2; get 2 0 = 3; get 2 1 = 2
            clean = 0; count 6 = 8; count 5 = 2
            root 3 -1 = 3; root 1 -1 = 1; root 2 -1 = 2; clean = 8; count 11 = 0; count 2 = 0
            """);
        runs.run("by PLACE, not by NUMBER or ROOT", Runs.KINDS, """
            policy slide 20 = 20; make 2 9 = 0; make 0 8 = 1; make 2 7 = 2; make 1 6 = 3; make 2 5 = 4
            root 9 -1 = 0; root 7 -1 = 2; clean = 2; about 1 0 = 0; about 3 0 = 3; about 4 0 = 7; count 11 = 8; count 6 = 8
            """);
    }

    private static void wordsComeAlong(Runs runs) {
        StringBuilder in = new StringBuilder();
        StringBuilder out = new StringBuilder();
        for (int i = 0; i < 19; i++) {
            in.append("put 1 ").append(i).append(' ').append(100 + i).append(" = 0; ");
            out.append("get 1 ").append(i).append(" = ").append(100 + i).append("; ");
        }
        runs.run("its words come along, also where it comes over its own old ones", Runs.KINDS, """
            policy slide 40 = 40; make 2 0 = 0; row false 19 1 = 1; make 2 2 = 2; make 2 3 = 3
            """, in.toString(), "\nroot 0 -1 = 0; root 2 -1 = 2; clean = 2; about 1 0 = 0; about 3 0 = 20\n", out.toString());
    }

    private static void top(Runs runs) {
        runs.run("at TOP, if it fits up to ROOM", Runs.KINDS, """
            policy slide 16 = 16
            row false 14 0 = 0; make 2 1 = 1; about 1 0 = 15; count 11 = 16; count 5 = 0
            make 2 1 = -1; count 5 = 1; root 1 -1 = 1; count 11 = 16
            make 2 2 = 2; about 2 0 = 15; count 5 = 2
            """);
        runs.run("free words before TOP are no room up to a cleaning", Runs.KINDS, """
            policy slide 20 = 20; row false 9 0 = 0; make 0 1 = 1; root 0 -1 = 0; make 2 2 = 2; about 2 0 = 13; count 5 = 0
            row false 5 3 = 3; about 3 0 = 14; count 11 = 20; row false 9 4 = 4; count 5 = 1; about 4 0 = 10
            """);
        runs.run("TOP is 0 if nothing is KEPT", "policy slide 16 = 16; row false 5 0 = 0; root 0 -1 = 0; clean = 6; count 11 = 0");
    }

    private static void held(Runs runs) {
        runs.run("held ones stay where they are", Runs.KINDS, """
            policy slide 20 = 20
            make 0 0 = 0; make 1 1 = 1; make 0 2 = 2; make 2 3 = 3; make 0 4 = 4; make 2 5 = 5
            hold 2 true = 1; root 0 -1 = 0; root 2 -1 = 2; root 3 -1 = 3; put 1 1 8 = 0
            clean = 4                        # 1 to 0, 2 stays at 7, 4 from 11 to 10, 5 from 14 to 13
            about 1 0 = 0; about 2 0 = 7; about 4 0 = 10; about 5 0 = 13; count 11 = 14; count 6 = 8; get 1 1 = 8
            row false 5 0 = 6; about 6 0 = 14; count 11 = 20
            make 2 2 = -1; count 5 = 2; count 3 = 17       # 4 to 6 are free, but not behind the last
            hold 2 false = 0
            make 2 2 = 7; about 7 0 = 14; about 4 0 = 4; about 6 0 = 8; count 7 = 7
            """);
        runs.run("the first is held, in the midst", Runs.KINDS, """
            policy slide 20 = 20; make 0 0 = 0; make 0 1 = 1; make 2 2 = 2; make 0 3 = 3; hold 1 true = 1; root 0 -1 = 0
            root 2 -1 = 2; clean = 4; about 1 0 = 3; about 3 0 = 6; count 11 = 9; count 6 = 3
            """);
        runs.run("the last is held: TOP is behind it", Runs.KINDS, """
            policy slide 20 = 20; make 0 0 = 0; make 0 1 = 1; make 2 2 = 2; hold 2 true = 1; root 0 -1 = 0; clean = 3
            about 1 0 = 0; about 2 0 = 6; count 11 = 7; count 6 = 3
            root 1 -1 = 1; root 2 -1 = 2; clean = 3; count 11 = 7; hold 2 false = 0; clean = 1; count 11 = 0
            """);
        runs.run("between two held ones", Runs.KINDS, """
            policy slide 30 = 30; make 2 0 = 0; make 0 1 = 1; make 2 2 = 2; make 2 3 = 3; make 0 4 = 4; make 2 5 = 5; make 0 6 = 6
            hold 1 true = 1; hold 4 true = 1; hold 4 true = 2; root 0 -1 = 0; root 2 -1 = 2; root 5 -1 = 5
            clean = 3; about 1 0 = 1; about 3 0 = 4; about 4 0 = 6; about 6 0 = 9; count 11 = 12; count 6 = 4
            hold 4 false = 1; clean = 0; about 4 0 = 6; hold 4 false = 0; clean = 0; about 4 0 = 5; about 6 0 = 8; about 1 0 = 1
            """);
    }

    private static void wishes(Runs runs) {
        runs.run("what a wish KEEPS is slid", Runs.KINDS, """
            policy slide 20 = 20
            make 0 0 = 0; make 0 1 = 1; make 0 2 = 2; wish 1 = 1; link 1 0 2 = -1; weak 0 2 = -1
            root 0 -1 = 0; root 1 -1 = 1; root 2 -1 = 2
            clean = 3; about 1 0 = 0; about 2 0 = 3; count 9 = 1; strong 0 0 = 2
            """);
    }
}
