/** The policy regions. */
public final class RegionsTest {
    public static void main(String[] args) {
        Runs runs = new Runs();
        making(runs);
        moving(runs);
        noEmptyLeft(runs);
        heldAndShare(runs);
        later(runs);
        nothingLeft(runs);
        aboveSize(runs);
        presentOne(runs);
        twoEmpty(runs);
        share(runs);
        fewestFirst(runs);
        byPlace(runs);
        heldOnes(runs);
        presentBehindACleaning(runs);
        lastRegion(runs);
        runs.finish();
    }

    private static void aboveSize(Runs runs) {
        runs.run("above SIZE: FULL at once", Runs.KINDS, """
            policy regions 64 16 50 = 64; make 0 0 = 0; root 0 -1 = 0
            row false 16 1 = -1; row true 60 1 = -1; count 5 = 0; count 2 = 1; count 4 = 1; root 1 -1 = -1; count 13 = 0
            count 11 = 3; row false 15 1 = 1; about 1 0 = 16; count 5 = 0
            """);
        runs.run("REGIONS of SIZE words: none comes over the end of one", """
            policy regions 68 17 50 = 68; row false 9 0 = 0; row false 9 1 = 1; about 1 0 = 17; row false 9 2 = 2; about 2 0 = 34
            count 13 = 2; count 11 = 44
            """);
    }

    private static void presentOne(Runs runs) {
        runs.run("at the TOP of the present REGION, up to its last word", """
            policy regions 64 16 50 = 64; row false 9 0 = 0; row false 4 1 = 1; about 1 0 = 10; count 11 = 15
            row false 0 2 = 2; about 2 0 = 15; count 11 = 16; count 13 = 0; count 10 = 3
            row false 0 3 = 3; about 3 0 = 16; count 13 = 1; count 11 = 17; count 10 = 2
            """);
        runs.run("it does not come back to one before", """
            policy regions 64 16 50 = 64; row false 9 0 = 0; row false 9 1 = 1; row false 3 2 = 2; about 2 0 = 26
            row false 3 3 = 3; about 3 0 = 32; count 13 = 2
            """);
    }

    private static void twoEmpty(Runs runs) {
        runs.run("two are EMPTY: no cleaning; one: cleaned, then an EMPTY one", """
            policy regions 64 16 0 = 64; row false 15 0 = 0; row false 15 1 = 1; count 10 = 2; count 5 = 0
            row false 15 2 = 2; about 2 0 = 32; count 10 = 1; count 5 = 0
            row false 15 3 = 3; about 3 0 = 48; count 10 = 0; count 5 = 1
            row false 0 4 = -1; count 5 = 2; count 13 = 3; root 4 -1 = -1
            """);
        runs.run("the least EMPTY one", """
            policy regions 96 16 0 = 96; row false 15 0 = 0; row false 15 1 = 1; row false 15 2 = 2; root 0 -1 = 0; clean = 16
            count 13 = 2; count 10 = 4; row false 3 3 = 3; about 3 0 = 0; count 13 = 0
            """);
        runs.run("cleaned, then again the present one", """
            policy regions 64 16 100 = 64; row false 9 0 = 0; row false 5 1 = 1; row false 15 2 = 2; row false 7 3 = 3
            row false 7 4 = 4; count 13 = 2; count 10 = 1; count 5 = 0; root 0 -1 = 0
            row false 8 5 = 5; count 5 = 1   # 1 moves to REGION 3, 2 to 0: that is the present one, and full
            about 1 0 = 48; about 2 0 = 0; count 13 = 1; about 5 0 = 16; count 10 = 0
            """);
        runs.run("the present one has room by the cleaning: no EMPTY one is taken", """
            policy regions 64 16 50 = 64; row false 9 0 = 0; row false 5 1 = 1; row false 15 2 = 2; row false 15 3 = 3
            root 0 -1 = 0; count 10 = 1; count 13 = 2
            row false 9 5 = 4; count 5 = 1; about 1 0 = 48; about 4 0 = 54; count 13 = 3; count 10 = 1; count 11 = 64
            """);
        runs.run("no EMPTY one is left: FULL, the present one stays", """
            policy regions 64 16 0 = 64; row false 14 0 = 0; row false 14 1 = 1; row false 14 2 = 2; row false 14 3 = 3
            count 10 = 0; row false 1 4 = -1; count 13 = 3; row false 0 4 = 4; about 4 0 = 63
            """);
    }

    private static void share(Runs runs) {
        runs.run("at most SHARE percent of SIZE: 8 of 17 words are, 50 percent", """
            policy regions 68 17 50 = 68; row false 7 0 = 0; row false 8 1 = 1; row false 16 2 = 2; root 1 -1 = 1; clean = 9
            about 0 0 = 34; count 13 = 2; count 6 = 8; count 10 = 2
            """);
        runs.run("9 of 17 words are more", """
            policy regions 68 17 50 = 68; row false 8 0 = 0; row false 7 1 = 1; row false 16 2 = 2; root 1 -1 = 1; clean = 8
            about 0 0 = 0; count 13 = 1; count 6 = 0; count 10 = 2
            """);
        runs.run("SHARE 0: nothing moves", """
            policy regions 64 16 0 = 64; row false 0 0 = 0; row false 14 1 = 1; row false 9 2 = 2; root 1 -1 = 1; clean = 15
            about 0 0 = 0; count 6 = 0; count 13 = 1; count 10 = 2
            """);
        runs.run("SHARE 100: a full one moves", """
            policy regions 64 16 100 = 64; row false 15 0 = 0; row false 9 1 = 1; count 13 = 1; clean = 0
            about 0 0 = 32; count 13 = 2; count 6 = 16; count 10 = 2; count 11 = 48; about 1 0 = 16
            """);
        runs.run("SHARE 99: a full one stays, one with 15 of 16 moves", """
            policy regions 80 16 99 = 80; row false 15 0 = 0; row false 14 1 = 1; row false 1 2 = 2; count 13 = 2; clean = 0
            about 0 0 = 0; about 1 0 = 48; count 13 = 3; count 6 = 15
            """);
        runs.run("SHARE 1: one word of 100", """
            policy regions 400 100 1 = 400; row false 0 0 = 0; row false 60 1 = 1; row false 60 2 = 2; row false 1 3 = 3
            root 1 -1 = 1; clean = 61; about 0 0 = 200; count 6 = 1
            """);
    }

    private static void fewestFirst(Runs runs) {
        // REGIONS 0 .. 3 have one of 9 words that goes, and 4, 2, 4 and 3 words that stay; 4 is the present one.
        runs.run("from the one with the fewest KEPT words on, the least first", Runs.KINDS, """
            policy regions 96 16 50 = 96
            row false 8 0 = 0; row false 3 1 = 1; row false 8 0 = 2; row false 1 2 = 3; row false 8 0 = 4; row false 3 3 = 5
            row false 8 0 = 6; row false 2 4 = 7; row false 8 0 = 8; count 13 = 4; count 10 = 1; count 5 = 0
            about 1 0 = 9; about 3 0 = 25; about 5 0 = 41; about 7 0 = 57
            clean = 36; about 3 0 = 80; about 7 0 = 82; about 1 0 = 85; about 5 0 = 89; count 13 = 5; count 11 = 93
            count 10 = 4; count 6 = 13; about 8 0 = 64
            """);
        runs.run("if it does not fit there: the least EMPTY one, which just became so", Runs.KINDS, """
            policy regions 64 16 100 = 64
            row false 8 0 = 0; row false 6 1 = 1; row false 5 0 = 2; row false 9 2 = 3; row false 15 3 = 4; count 13 = 2
            root 0 -1 = 2; clean = 15; about 1 0 = 48; about 3 0 = 0; count 13 = 0; count 11 = 10; count 10 = 1; about 4 0 = 32
            """);
    }

    private static void byPlace(Runs runs) {
        runs.run("its OBJECTS, by PLACE", Runs.KINDS, """
            policy regions 96 24 50 = 96; make 2 9 = 0; make 0 8 = 1; row false 11 7 = 2; make 1 6 = 3; make 2 5 = 4
            row false 20 4 = 5; count 13 = 1; root 7 -1 = 2; put 3 1 6 = 0; put 3 2 -9 = 0; link 3 0 3 = -1
            clean = 12; about 0 0 = 48; about 1 0 = 49; about 3 0 = 52; about 4 0 = 56; count 11 = 57; count 6 = 9
            get 3 0 = 3; get 3 1 = 6; get 3 2 = -9; about 5 0 = 24
            """);
        runs.run("when all of it moved it is EMPTY, and made in from its beginning", Runs.KINDS, """
            policy regions 64 16 50 = 64; row false 9 0 = 0; make 0 1 = 1; row false 15 2 = 2; root 0 -1 = 0; clean = 10
            count 10 = 2; about 1 0 = 32; row false 13 3 = 3; about 3 0 = 0; count 11 = 14
            """);
    }

    private static void heldOnes(Runs runs) {
        runs.run("no held one: nothing of its REGION moves", Runs.KINDS, """
            policy regions 64 16 100 = 64; make 0 0 = 0; make 0 1 = 1; row false 8 2 = 2; row false 9 3 = 3; hold 1 true = 1
            root 2 -1 = 2; clean = 9; about 0 0 = 0; about 1 0 = 3; count 6 = 0; count 13 = 1; count 10 = 2
            hold 1 false = 0; clean = 0; about 0 0 = 32; about 1 0 = 35; count 6 = 6; count 13 = 2
            """);
        runs.run("held in another REGION", Runs.KINDS, """
            policy regions 64 16 100 = 64; make 0 0 = 0; row false 12 1 = 1; row false 9 2 = 2; hold 2 true = 1; root 1 -1 = 1
            clean = 13; about 0 0 = 32; count 13 = 2
            """);
    }

    private static void presentBehindACleaning(Runs runs) {
        runs.run("the present one does not move", Runs.KINDS, """
            policy regions 64 16 100 = 64; make 0 0 = 0; clean = 0; about 0 0 = 0; count 6 = 0; count 13 = 0; count 11 = 3
            """);
        runs.run("nothing moved, and the present one has something: it stays", Runs.KINDS, """
            policy regions 64 16 0 = 64; row false 15 0 = 0; row false 3 1 = 1; root 0 -1 = 0; clean = 16; count 13 = 1
            count 11 = 20; count 10 = 3
            """);
        runs.run("nothing moved, and the present one is EMPTY: the least EMPTY one", Runs.KINDS, """
            policy regions 64 16 0 = 64; row false 15 0 = 0; row false 15 1 = 1; row false 3 2 = 2; count 13 = 2
            root 1 -1 = 1; root 2 -1 = 2; clean = 20; count 13 = 1; count 11 = 16; count 10 = 3; row false 3 3 = 3; about 3 0 = 16
            """);
        runs.run("something moved: the REGION to which the last one did", Runs.KINDS, """
            policy regions 80 16 50 = 80; make 0 0 = 0; row false 12 1 = 1; row false 15 2 = 2; root 1 -1 = 1; root 2 -1 = 2
            clean = 29; about 0 0 = 16; count 13 = 1; count 11 = 19; count 10 = 4
            """);
        runs.run("what is left has its TOP as it was", Runs.KINDS, """
            policy regions 64 16 0 = 64; make 0 0 = 0; make 0 1 = 1; root 1 -1 = 1; clean = 3; count 11 = 6; make 0 1 = 2
            about 2 0 = 6
            """);
    }

    private static void lastRegion(Runs runs) {
        StringBuilder rows = new StringBuilder("policy regions 1500 16 100 = 1488; count 10 = 93\n");
        for (int n = 0; n < 92; n++) {
            rows.append("row false 15 0 = ").append(n).append("; hold ").append(n).append(" true = 1\n");
        }
        runs.run("the last REGION", rows.toString(), """
            about 91 0 = 1456; count 10 = 1; count 5 = 0; row false 3 1 = 92; about 92 0 = 1472; count 13 = 92; count 10 = 0
            count 5 = 1; row false 10 2 = 93; about 93 0 = 1476; put 93 9 5 = 0; count 11 = 1487; row false 1 3 = -1
            root 2 -1 = 93; hold 91 false = 0; root 0 -1 = 91
            row false 7 3 = 94; about 94 0 = 1456; count 13 = 91; count 7 = 27; count 10 = 0; about 92 0 = 1472
            root 3 -1 = 94; clean = 8; count 13 = 91; about 92 0 = 1456; count 10 = 1; count 11 = 1460
            """);
    }

    private static void making(Runs runs) {
        runs.run("made in regions", Runs.KINDS, """
            policy regions 70 16 50 = 64
            count 10 = 4; count 13 = 0; count 11 = 0
            row false 16 0 = -1; count 5 = 0     # above SIZE
            row false 9 0 = 0; count 10 = 3; count 11 = 10; make 0 4 = 1; about 1 0 = 10
            row false 9 1 = 2; about 2 0 = 16; count 13 = 1; count 11 = 26
            row false 9 2 = 3; about 3 0 = 32; count 13 = 2; count 10 = 1; count 5 = 0
            row false 9 3 = 4; about 4 0 = 48; count 13 = 3; count 10 = 0; count 5 = 1
            make 0 5 = 5; about 5 0 = 58; make 0 5 = 6; about 6 0 = 61; count 11 = 64; count 5 = 1
            make 2 5 = -1; count 5 = 2; count 7 = 3; count 6 = 0; count 11 = 64; count 13 = 3
            """);
    }

    private static void moving(Runs runs) {
        runs.run("from the fewest on, to the last one's region", Runs.KINDS, """
            policy regions 112 16 50 = 112
            row false 9 0 = 0; make 0 1 = 1; make 2 2 = 2    # region 0: 10, 3 and 1 words
            row false 9 3 = 3; make 1 4 = 4                  # region 1: 10 and 4
            row false 9 5 = 5; make 0 6 = 6                  # region 2: 10 and 3
            row false 9 7 = 7; count 13 = 3; count 10 = 3
            put 4 1 9 = 0; link 6 0 4 = -1
            root 0 -1 = 0; root 3 -1 = 3; root 5 -1 = 5
            clean = 30                       # region 2 has 3, regions 0 and 1 have 4; 3 is the present one
            about 6 0 = 64; about 1 0 = 67; about 2 0 = 70; about 4 0 = 71; count 13 = 4; count 11 = 75; count 6 = 11
            count 10 = 5; get 4 1 = 9; get 6 0 = 4; about 7 0 = 48
            make 0 0 = 8; about 8 0 = 75
            row false 9 0 = 9; about 9 0 = 0; count 13 = 0
            clean = 3; count 5 = 2           # 8 is gone; region 4 has 11 words: more than 8; 0 is the present one
            about 6 0 = 64; count 13 = 0
            root 6 -1 = 6; root 4 -1 = 4
            clean = 7; about 1 0 = 16; about 2 0 = 19; count 13 = 1; count 11 = 20; count 10 = 4; count 6 = 15
            """);
        runs.run("what does not fit goes to the least empty one", Runs.KINDS, """
            policy regions 96 16 50 = 96
            row false 6 0 = 0; row false 7 1 = 1             # 7 and 8 words in region 0
            row false 6 2 = 2; row false 7 3 = 3             # the same in region 1
            row false 6 4 = 4; row false 7 5 = 5             # and in 2
            make 1 6 = 6; about 6 0 = 48; root 0 -1 = 0; root 2 -1 = 2; root 4 -1 = 4
            clean = 21                       # 1 and 3 to region 4; 5 to region 0, which is empty by then
            about 1 0 = 64; about 3 0 = 72; about 5 0 = 0; count 13 = 0; count 11 = 8; count 10 = 3
            """);
    }

    private static void noEmptyLeft(Runs runs) {
        runs.run("it ends at once where none is empty", Runs.KINDS, """
            policy regions 64 16 100 = 64
            make 0 0 = 0; row false 6 1 = 1; make 1 2 = 2    # region 0: 3, 7 and 4
            make 0 3 = 3; row false 6 4 = 4; make 1 5 = 5    # region 1: the same
            row false 15 6 = 6; count 13 = 2; count 10 = 1
            root 1 -1 = 1; root 4 -1 = 4
            row false 11 7 = 7               # cleaned: 0 and 2 move to region 3, 3 and 5 behind them
            count 5 = 1; about 0 0 = 48; about 2 0 = 51; about 3 0 = 55; about 5 0 = 58; about 7 0 = 0
            count 13 = 0; count 6 = 14; count 7 = 14; count 10 = 1
            row false 11 8 = 8; count 5 = 2  # region 3 has 14 words, 2 has 16: 3 moves to region 1, 2 to 3
            about 0 0 = 16; about 5 0 = 26; about 6 0 = 48; count 13 = 2; about 8 0 = 32; count 10 = 0
            row false 11 9 = -1; count 5 = 3; about 0 0 = 16; count 13 = 2
            """);
        runs.run("what was emptied is moved to", Runs.KINDS, """
            policy regions 64 16 100 = 64
            row false 8 0 = 0; row false 5 1 = 1             # region 0: 9 and 6
            row false 7 2 = 2; row false 7 3 = 3             # region 1: 8 and 8
            row false 14 4 = 4                               # region 2: 15, the present one
            clean = 0                        # region 0 has 15, so it moves to 3; then 2 and 3 to region 0
            about 0 0 = 48; about 1 0 = 57; about 2 0 = 0; about 3 0 = 8; about 4 0 = 32; count 13 = 0; count 10 = 1
            count 6 = 31
            """);
    }

    private static void heldAndShare(Runs runs) {
        runs.run("held ones and more than the share stay", Runs.KINDS, """
            policy regions 96 20 40 = 80
            make 1 0 = 0; make 1 1 = 1; row false 11 2 = 2   # region 0: 4, 4, 12
            make 1 3 = 3; make 1 4 = 4; row false 11 5 = 5   # region 1
            make 2 6 = 6; about 6 0 = 40; hold 3 true = 1
            root 2 -1 = 2; root 5 -1 = 5
            clean = 24                       # 8 of 20 words are 40 percent; region 1 has a held one
            about 0 0 = 60; about 1 0 = 64; about 3 0 = 20; about 4 0 = 24; count 13 = 3; count 10 = 1; count 6 = 8
            hold 3 false = 0; make 2 7 = 7; about 7 0 = 68
            clean = 0; about 6 0 = 0; about 3 0 = 1; about 4 0 = 5; count 13 = 0; about 0 0 = 60
            """);
        runs.run("one word above the share", Runs.KINDS, """
            policy regions 96 20 40 = 80
            make 1 0 = 0; make 1 1 = 1; make 2 2 = 2; row false 10 3 = 3; make 2 4 = 4; row false 10 5 = 5
            root 3 -1 = 3; clean = 11; about 0 0 = 0; about 3 0 = !NoSuchElementException; count 6 = 0; count 13 = 1
            """);
    }

    private static void later(Runs runs) {
        runs.run("what could not move may move later", Runs.KINDS, """
            policy regions 64 16 50 = 64
            row false 7 0 = 0; row false 7 1 = 1; row false 15 2 = 2; row false 15 3 = 3; row false 15 4 = 4
            count 13 = 3; count 10 = 0; count 5 = 1; root 0 -1 = 0
            clean = 8; count 6 = 0; about 1 0 = 8; root 2 -1 = 2
            clean = 16; about 1 0 = 16; count 6 = 8; count 13 = 1; count 10 = 1; count 12 = 0
            """);
        runs.run("the first of all is held", Runs.KINDS, """
            policy regions 64 16 50 = 64
            row false 7 0 = 0; row false 7 1 = 1; make 2 2 = 2; count 13 = 1; hold 0 true = 1; root 1 -1 = 1
            clean = 8; about 0 0 = 0; count 6 = 0; hold 0 false = 0; clean = 0; about 0 0 = 32
            """);
    }

    private static void nothingLeft(Runs runs) {
        runs.run("nothing left", Runs.KINDS, """
            policy regions 64 16 50 = 64
            row false 9 0 = 0; row false 9 0 = 1; count 13 = 1; root 0 -1 = 1
            clean = 20; count 10 = 4; count 13 = 0; count 11 = 0
            row false 9 0 = 2; row false 9 1 = 3; row false 9 1 = 4; about 4 0 = 32; root 1 -1 = 4; count 13 = 2
            clean = 20; count 13 = 1; count 11 = 16; count 10 = 3; about 2 0 = 0
            make 2 5 = 5; about 5 0 = 16
            """);
        runs.run("the present one may be moved to", Runs.KINDS, """
            policy regions 64 16 50 = 64
            make 0 0 = 0; row false 12 1 = 1; row false 9 2 = 2; count 13 = 1; root 1 -1 = 1; root 2 -1 = 2
            clean = 23; about 0 0 = 16; count 13 = 1; count 11 = 19; count 10 = 3
            """);
    }
}
