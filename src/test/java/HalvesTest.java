/** The policy halves. */
public final class HalvesTest {
    public static void main(String[] args) {
        Runs runs = new Runs();
        runs.run("in the order of coming", Runs.KINDS, """
            policy halves 30 = 60
            make 0 5 = 0; make 0 1 = 1; make 0 2 = 2; make 0 0 = 3; make 1 3 = 4; make 2 4 = 5; make 0 6 = 6
            count 11 = 20
            link 3 0 4 = -1; link 3 1 5 = -1; link 1 0 6 = -1; link 4 0 0 = -1; link 6 0 3 = -1; link 6 1 0 = -1
            put 4 2 -1 = 0
            root 5 -1 = 0; root 2 -1 = 2; root 3 -1 = 4; root 4 -1 = 5; root 6 -1 = 6
            clean = 3                        # 3 and 1 by roots, 4 and 5 of 3, 6 of 1, 0 of 4
            about 3 0 = 30; about 1 0 = 33; about 4 0 = 36; about 5 0 = 40; about 6 0 = 41; about 0 0 = 44
            count 11 = 47; count 6 = 17; count 7 = 3; count 2 = 6; get 4 2 = -1; get 4 0 = 0; get 6 0 = 3
            root 0 -1 = 3; clean = 0         # 1 first now: 6, then 3 and 0 of 6, then 4 and 5 of 3
            about 1 0 = 0; about 6 0 = 3; about 3 0 = 6; about 0 0 = 9; about 4 0 = 12; about 5 0 = 16; count 11 = 17
            count 6 = 34; count 5 = 2
            """);
        runs.run("wishes come last", Runs.KINDS, """
            policy halves 40 = 80
            make 0 0 = 0; make 0 1 = 1; make 0 2 = 2; make 0 3 = 3; make 0 4 = 4; make 2 5 = 5
            link 1 0 2 = -1; link 2 0 1 = -1; link 4 1 5 = -1; link 3 0 4 = -1
            wish 4 = 1; wish 2 = 1; wish 1 = 1; wish 3 = 1; weak 0 1 = -1; weak 1 2 = -1; weak 2 4 = -1
            root 1 -1 = 1; root 2 -1 = 2; root 3 -1 = 3; root 4 -1 = 4; root 5 -1 = 5
            clean = 0; count 9 = 2           # 0; 1, 2 by it, which keeps its wish; 3; 4 and 5 by it
            about 0 0 = 40; about 1 0 = 43; about 2 0 = 46; about 3 0 = 49; about 4 0 = 52; about 5 0 = 55
            about 2 7 = 1; about 4 7 = 1; about 1 7 = 0; about 3 7 = 0
            strong 0 9 = -1; strong 1 9 = 2; root 9 -1 = 2; strong 2 9 = 4; root 9 -1 = 4
            root 7 3 = -1
            clean = 0; about 0 0 = 0; about 3 0 = 3; about 1 0 = 6    # root 7 has 3; 1 is in the row of wishes
            about 4 0 = 9; about 2 0 = 12; about 5 0 = 15
            """);
        runs.run("a make that finds no room", Runs.KINDS, """
            policy halves 16 = 32
            row false 10 0 = 0; make 1 1 = 1; count 11 = 15; make 2 2 = 2; count 11 = 16; count 5 = 0
            make 2 3 = -1; count 5 = 1; count 11 = 32; about 0 0 = 16; root 3 -1 = -1
            root 1 -1 = 1; make 0 3 = 3; count 5 = 2; about 0 0 = 0; about 2 0 = 11; about 3 0 = 12; count 11 = 15
            row false 20 4 = -1; count 5 = 3; about 0 0 = 16; about 3 0 = 28
            """);
        roots(runs);
        edges(runs);
        runs.finish();
    }

    private static void roots(Runs runs) {
        runs.run("what ROOTS lead to, rising, each only once", Runs.KINDS, """
            policy halves 20 = 40; make 0 15 = 0; make 1 0 = 1; make 2 7 = 2; root 8 0 = -1; root 1 2 = -1; root 14 1 = -1
            clean = 0; about 1 0 = 20; about 2 0 = 24; about 0 0 = 25; count 11 = 28; count 6 = 8; count 2 = 3
            """);
        runs.run("then WISHES in order, then what those that came have", Runs.KINDS, """
            policy halves 30 = 60; make 0 0 = 0; make 0 1 = 1; make 0 2 = 2; make 2 3 = 3; make 2 4 = 4; make 2 5 = 5
            link 0 0 3 = -1; link 0 1 2 = -1; link 1 1 4 = -1; link 2 0 5 = -1; wish 1 = 1; wish 2 = 1; wish 5 = 1
            root 1 -1 = 1; root 2 -1 = 2; root 3 -1 = 3; root 4 -1 = 4; root 5 -1 = 5
            clean = 0; count 9 = 1           # 0; 3 and 2 of it; 5 of 2; then 1 with its wish, and 4
            about 0 0 = 30; about 3 0 = 33; about 2 0 = 34; about 5 0 = 37; about 1 0 = 38; about 4 0 = 41; count 11 = 42
            link 0 1 -1 = 2; clean = 0; count 9 = 2    # 0, 1 in WISHES; 3, 4; then 2 with its wish, and 5, which keeps its
            about 0 0 = 0; about 1 0 = 3; about 3 0 = 6; about 4 0 = 7; about 2 0 = 8; about 5 0 = 11; about 5 7 = 1
            clean = 0; about 0 0 = 30; about 1 0 = 33; about 2 0 = 36; about 3 0 = 39; about 4 0 = 40; about 5 0 = 41
            """);
        runs.run("word after word", Runs.KINDS, """
            policy halves 40 = 80; make 3 0 = 0; make 2 1 = 1; make 2 2 = 2; make 2 3 = 3; link 0 7 1 = -1; link 0 0 3 = -1
            link 0 3 2 = -1; link 0 4 3 = -1; link 0 5 0 = -1; root 1 -1 = 1; root 2 -1 = 2; root 3 -1 = 3
            clean = 0; about 0 0 = 40; about 3 0 = 49; about 2 0 = 50; about 1 0 = 51; get 0 7 = 1; get 0 0 = 3; get 0 4 = 3
            """);
    }

    private static void edges(Runs runs) {
        runs.run("PLACES up to 2 ROOM - 1, and back again", """
            policy halves 16 = 32; row false 15 0 = 0; put 0 0 3 = 0; put 0 14 7 = 0; count 11 = 16
            clean = 0; about 0 0 = 16; count 11 = 32; get 0 14 = 7; get 0 0 = 3; put 0 14 8 = 7
            clean = 0; about 0 0 = 0; count 11 = 16; get 0 14 = 8; clean = 0; about 0 0 = 16; count 6 = 48
            row false 0 1 = -1; about 0 0 = 0; root 0 -1 = 0; row false 15 1 = 1; about 1 0 = 16; count 11 = 32
            """);
        runs.run("nothing is KEPT", """
            policy halves 16 = 32; clean = 0; count 11 = 16; row false 3 0 = 0; about 0 0 = 16; root 0 -1 = 0; clean = 4
            count 11 = 0; clean = 0; count 11 = 16; count 6 = 0
            """);
        StringBuilder rows = new StringBuilder("policy halves 1500 = 3000\n");
        for (int n = 0; n < 24; n++) {
            rows.append("row true 60 ").append(n % 2).append(" = ").append(n).append(n == 0 ? "\n" : "; link " + n + " 0 "
                + (n - 1) + " = -1\n");
        }
        runs.run("the greatest ROOM", rows.toString(), """
            row true 35 0 = 24; link 24 34 23 = -1; link 0 59 0 = -1; count 11 = 1500; count 5 = 0; root 1 -1 = 23
            clean = 0; about 24 0 = 1500; about 23 0 = 1536; about 0 0 = 2939; get 0 59 = 0; get 24 34 = 23; count 11 = 3000
            row false 0 1 = -1; about 0 0 = 1439; get 0 59 = 0; count 6 = 3000; count 5 = 2
            """);
    }
}
