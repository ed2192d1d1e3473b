/** The policy regions. */
public final class RegionsTest {
    public static void main(String[] args) {
        Runs runs = new Runs();
        making(runs);
        moving(runs);
        noEmptyLeft(runs);
        heldAndShare(runs);
        later(runs);
        nothingLeft(runs);
        runs.finish();
    }

    private static void making(Runs runs) {
        runs.run("made in regions", Runs.KINDS, """
            policy regions 70 16 50 = 64
            count 10 = 4; count 13 = 0; count 11 = 0
            row false 16 0 = -1; count 5 = 0     # above SIZE
            row false 9 0 = 0; count 10 = 3; count 11 = 10; make 0 4 = 1; about 1 0 = 10
            row false 9 1 = 2; about 2 0 = 16; count 13 = 1; count 11 = 26
            row false 9 2 = 3; about 3 0 = 32; count 13 = 2; count 10 = 1; count 5 = 0
            row false 9 3 = 4; about 4 0 = 48; count 13 = 3; count 10 = 0; count 5 = 1
            make 0 5 = 5; about 5 0 = 58; make 0 5 = 6; about 6 0 = 61; count 11 = 64; count 5 = 1
            make 2 5 = -1; count 5 = 2; count 7 = 3; count 6 = 0; count 11 = 64; count 13 = 3
            """);
    }

    private static void moving(Runs runs) {
        runs.run("from the fewest on, to the last one's region", Runs.KINDS, """
            policy regions 112 16 50 = 112
            row false 9 0 = 0; make 0 1 = 1; make 2 2 = 2    # region 0: 10, 3 and 1 words
            row false 9 3 = 3; make 1 4 = 4                  # region 1: 10 and 4
            row false 9 5 = 5; make 0 6 = 6                  # region 2: 10 and 3
            row false 9 7 = 7; count 13 = 3; count 10 = 3
            put 4 1 9 = 0; link 6 0 4 = -1
            root 0 -1 = 0; root 3 -1 = 3; root 5 -1 = 5
            clean = 30                       # region 2 has 3, regions 0 and 1 have 4; 3 is the present one
            about 6 0 = 64; about 1 0 = 67; about 2 0 = 70; about 4 0 = 71; count 13 = 4; count 11 = 75; count 6 = 11
            count 10 = 5; get 4 1 = 9; get 6 0 = 4; about 7 0 = 48
            make 0 0 = 8; about 8 0 = 75
            row false 9 0 = 9; about 9 0 = 0; count 13 = 0
            clean = 3; count 5 = 2           # 8 is gone; region 4 has 11 words: more than 8; 0 is the present one
            about 6 0 = 64; count 13 = 0
            root 6 -1 = 6; root 4 -1 = 4
            clean = 7; about 1 0 = 16; about 2 0 = 19; count 13 = 1; count 11 = 20; count 10 = 4; count 6 = 15
            """);
        runs.run("what does not fit goes to the least empty one", Runs.KINDS, """
            policy regions 96 16 50 = 96
            row false 6 0 = 0; row false 7 1 = 1             # 7 and 8 words in region 0
            row false 6 2 = 2; row false 7 3 = 3             # the same in region 1
            row false 6 4 = 4; row false 7 5 = 5             # and in 2
            make 1 6 = 6; about 6 0 = 48; root 0 -1 = 0; root 2 -1 = 2; root 4 -1 = 4
            clean = 21                       # 1 and 3 to region 4; 5 to region 0, which is empty by then
            about 1 0 = 64; about 3 0 = 72; about 5 0 = 0; count 13 = 0; count 11 = 8; count 10 = 3
            """);
    }

    private static void noEmptyLeft(Runs runs) {
        runs.run("it ends at once where none is empty", Runs.KINDS, """
            policy regions 64 16 100 = 64
            make 0 0 = 0; row false 6 1 = 1; make 1 2 = 2    # region 0: 3, 7 and 4
            make 0 3 = 3; row false 6 4 = 4; make 1 5 = 5    # region 1: the same
            row false 15 6 = 6; count 13 = 2; count 10 = 1
            root 1 -1 = 1; root 4 -1 = 4
            row false 11 7 = 7               # cleaned: 0 and 2 move to region 3, 3 and 5 behind them
            count 5 = 1; about 0 0 = 48; about 2 0 = 51; about 3 0 = 55; about 5 0 = 58; about 7 0 = 0
            count 13 = 0; count 6 = 14; count 7 = 14; count 10 = 1
            row false 11 8 = 8; count 5 = 2  # region 3 has 14 words, 2 has 16: 3 moves to region 1, 2 to 3
            about 0 0 = 16; about 5 0 = 26; about 6 0 = 48; count 13 = 2; about 8 0 = 32; count 10 = 0
            row false 11 9 = -1; count 5 = 3; about 0 0 = 16; count 13 = 2
            """);
        runs.run("what was emptied is moved to", Runs.KINDS, """
            policy regions 64 16 100 = 64
            row false 8 0 = 0; row false 5 1 = 1             # region 0: 9 and 6
            row false 7 2 = 2; row false 7 3 = 3             # region 1: 8 and 8
            row false 14 4 = 4                               # region 2: 15, the present one
            clean = 0                        # region 0 has 15, so it moves to 3; then 2 and 3 to region 0
            about 0 0 = 48; about 1 0 = 57; about 2 0 = 0; about 3 0 = 8; about 4 0 = 32; count 13 = 0; count 10 = 1
            count 6 = 31
            """);
    }

    private static void heldAndShare(Runs runs) {
        runs.run("held ones and more than the share stay", Runs.KINDS, """
            policy regions 96 20 40 = 80
            make 1 0 = 0; make 1 1 = 1; row false 11 2 = 2   # region 0: 4, 4, 12
            make 1 3 = 3; make 1 4 = 4; row false 11 5 = 5   # region 1
            make 2 6 = 6; about 6 0 = 40; hold 3 true = 1
            root 2 -1 = 2; root 5 -1 = 5
            clean = 24                       # 8 of 20 words are 40 percent; region 1 has a held one
            about 0 0 = 60; about 1 0 = 64; about 3 0 = 20; about 4 0 = 24; count 13 = 3; count 10 = 1; count 6 = 8
            hold 3 false = 0; make 2 7 = 7; about 7 0 = 68
            clean = 0; about 6 0 = 0; about 3 0 = 1; about 4 0 = 5; count 13 = 0; about 0 0 = 60
            """);
        runs.run("one word above the share", Runs.KINDS, """
            policy regions 96 20 40 = 80
            make 1 0 = 0; make 1 1 = 1; make 2 2 = 2; row false 10 3 = 3; make 2 4 = 4; row false 10 5 = 5
            root 3 -1 = 3; clean = 11; about 0 0 = 0; about 3 0 = !NoSuchElementException; count 6 = 0; count 13 = 1
            """);
    }

    private static void later(Runs runs) {
        runs.run("what could not move may move later", Runs.KINDS, """
            policy regions 64 16 50 = 64
            row false 7 0 = 0; row false 7 1 = 1; row false 15 2 = 2; row false 15 3 = 3; row false 15 4 = 4
            count 13 = 3; count 10 = 0; count 5 = 1; root 0 -1 = 0
            clean = 8; count 6 = 0; about 1 0 = 8; root 2 -1 = 2
            clean = 16; about 1 0 = 16; count 6 = 8; count 13 = 1; count 10 = 1; count 12 = 0
            """);
        runs.run("the first of all is held", Runs.KINDS, """
            policy regions 64 16 50 = 64
            row false 7 0 = 0; row false 7 1 = 1; make 2 2 = 2; count 13 = 1; hold 0 true = 1; root 1 -1 = 1
            clean = 8; about 0 0 = 0; count 6 = 0; hold 0 false = 0; clean = 0; about 0 0 = 32
            """);
    }

    private static void nothingLeft(Runs runs) {
        runs.run("nothing left", Runs.KINDS, """
            policy regions 64 16 50 = 64
            row false 9 0 = 0; row false 9 0 = 1; count 13 = 1; root 0 -1 = 1
            clean = 20; count 10 = 4; count 13 = 0; count 11 = 0
            row false 9 0 = 2; row false 9 1 = 3; row false 9 1 = 4; about 4 0 = 32; root 1 -1 = 4; count 13 = 2
            clean = 20; count 13 = 1; count 11 = 16; count 10 = 3; about 2 0 = 0
            make 2 5 = 5; about 5 0 = 16
            """);
        runs.run("the present one may be moved to", Runs.KINDS, """
            policy regions 64 16 50 = 64
            make 0 0 = 0; row false 12 1 = 1; row false 9 2 = 2; count 13 = 1; root 1 -1 = 1; root 2 -1 = 2
            clean = 23; about 0 0 = 16; count 13 = 1; count 11 = 19; count 10 = 3
            """);
    }
}
