/** The policy ages. */
public final class AgesTest {
    public static void main(String[] args) {
        Runs runs = new Runs();
        minorAndMajor(runs);
        promoted(runs);
        oldTooFull(runs);
        justEnough(runs);
        largeOnes(runs);
        majorAlone(runs);
        wishes(runs);
        runs.finish();
    }

    private static void minorAndMajor(Runs runs) {
        runs.run("minor, then major", Runs.KINDS, """
            policy ages 16 20 2 4 = 52
            count 11 = 20; count 13 = 0
            make 3 0 = 0; about 0 0 = 0; about 0 3 = 0; count 13 = 9; count 11 = 20
            make 0 1 = 1; about 1 0 = 20; make 0 2 = 2; count 11 = 26
            link 0 2 2 = -1; count 10 = 1    # word 2 of 0 is at 3, card 0
            link 0 3 1 = -1; count 10 = 2    # at 4, card 1
            link 0 3 -1 = 1; count 10 = 2; link 0 6 0 = -1; count 10 = 2
            root 1 -1 = 1; root 2 -1 = 2
            make 0 3 = 3; make 0 3 = 4; make 0 3 = 5; count 11 = 35; count 5 = 0
            make 0 4 = 6                     # 5 by root 3, 2 by card 0
            count 5 = 1; about 5 0 = 36; about 2 0 = 39; about 6 0 = 42; count 11 = 45
            about 5 3 = 1; about 2 3 = 1; about 6 3 = 0; count 10 = 1; count 6 = 6; count 7 = 9; count 2 = 4
            clean = 0; count 5 = 3           # 5 and 2 are old now, 6 comes to the first half
            about 5 0 = 9; about 5 3 = 2; about 6 0 = 20; about 6 3 = 1; about 2 0 = 12; count 13 = 15; count 11 = 23
            count 10 = 0; count 6 = 15; get 0 2 = 2; get 0 6 = 0
            hold 6 true = !UnsupportedOperationException; hold 5 true = 1
            root 0 -1 = 0; root 3 -1 = 5
            clean = 12                       # 0 and 2 are gone; 5 is held
            about 5 0 = 9; count 13 = 15; about 6 0 = 12; about 6 3 = 2; count 11 = 36; count 5 = 5
            """);
    }

    private static void promoted(Runs runs) {
        runs.run("cards rising, words rising, then those that came", Runs.KINDS, """
            policy ages 30 60 1 8 = 120
            make 1 0 = 0; make 0 1 = 1; clean = 0; about 0 0 = 0; about 1 0 = 4; count 13 = 7; count 5 = 2
            about 0 3 = 1; count 11 = 90
            make 0 2 = 2; make 0 3 = 3; make 0 4 = 4; make 2 5 = 5; about 2 0 = 90
            link 1 1 2 = -1; count 10 = 1    # at 6
            link 1 0 3 = -1; link 2 0 5 = -1; link 4 0 2 = -1; link 5 0 2 = !IndexOutOfBoundsException
            link 0 0 3 = -1
            root 2 -1 = 2; root 3 -1 = 3; root 5 -1 = 5
            clean = 0                        # 4 by its root, 3 by word 0 of 0, 2 by word 1 of 1, 5 by 2
            about 4 0 = 7; about 3 0 = 10; about 2 0 = 13; about 5 0 = 16; count 13 = 17; count 10 = 0; count 11 = 60
            """);
        runs.run("young ones stay reached by what grows old", Runs.KINDS, """
            policy ages 20 40 2 4 = 80
            make 0 0 = 0; clean = 0; make 0 1 = 1; link 0 0 1 = -1; root 1 -1 = 1; count 10 = 0
            clean = 0; about 0 0 = 0; about 0 3 = 2; about 1 3 = 1; about 1 0 = 40; count 10 = 1
            root 0 -1 = 0                    # 0 is old and not reached, but a minor cleaning keeps it
            row false 9 2 = 2; row false 9 3 = 3; count 5 = 5
            about 2 0 = 60; about 3 0 = 70; count 2 = 4; count 13 = 6; count 10 = 0
            """);
    }

    private static void oldTooFull(Runs runs) {
        runs.run("old has fewer words than would come", Runs.KINDS, """
            policy ages 16 16 1 4 = 48
            make 3 0 = 0; make 1 1 = 1; make 1 2 = 2; make 1 3 = 3; make 1 4 = 4; count 11 = 32; count 5 = 0
            make 2 5 = -1; count 5 = 3; count 11 = 32; about 4 0 = 28
            root 2 -1 = 2; root 3 -1 = 3; root 4 -1 = 4
            make 2 5 = 5; count 5 = 5; about 1 0 = 9; about 5 0 = 32; count 13 = 13; count 7 = 12
            root 1 -1 = 1
            row false 7 6 = 6; row false 5 7 = 7; make 2 8 = 8; count 11 = 48; count 5 = 5
            make 2 9 = -1                    # 16 words in young, 3 free in old; 4 of 1 go
            count 5 = 8; count 7 = 16; count 13 = 9
            clean = 0; count 5 = 10
            """);
    }

    private static void justEnough(Runs runs) {
        runs.run("old has as many words as would come", Runs.KINDS, """
            policy ages 16 16 1 4 = 48
            make 1 0 = 0; make 1 1 = 1; make 1 2 = 2; make 1 3 = 3; count 11 = 32
            make 2 4 = 4; count 5 = 1; count 13 = 16; about 3 0 = 12; about 4 0 = 32
            clean = 0; count 5 = 3           # a major one; none behind it, as there is no word for 4, but once more
            about 4 0 = 32
            """);
        runs.run("one word too many", Runs.KINDS, """
            policy ages 17 16 1 4 = 50
            make 2 0 = 0; make 1 1 = 1; make 1 2 = 2; make 1 3 = 3; make 1 4 = 4; count 11 = 33
            make 2 5 = -1; count 5 = 3; count 13 = 0
            root 0 -1 = 0; make 2 5 = 5; count 5 = 5; count 13 = 16; about 5 0 = 33
            """);
        runs.run("up to the last word of old", Runs.KINDS, """
            policy ages 16 18 1 4 = 50
            row false 8 0 = 0; row false 8 1 = 1; about 1 0 = 9; count 13 = 18; count 5 = 0
            row false 8 2 = -1; count 5 = 1; root 0 -1 = 0
            row false 8 2 = 2; about 1 0 = 0; about 2 0 = 9; count 13 = 18; count 5 = 2; count 12 = 0
            """);
    }

    private static void largeOnes(Runs runs) {
        runs.run("above half of young", Runs.KINDS, """
            policy ages 17 20 3 4 = 54
            row false 7 0 = 0; about 0 0 = 20    # 8 words
            row false 8 1 = 1; about 1 0 = 0; count 13 = 9
            row false 9 2 = 2; about 2 0 = 9; about 2 3 = 0; count 13 = 19
            row false 8 3 = -1; count 5 = 1; count 6 = 0
            root 1 -1 = 1; row false 8 3 = 3; about 2 0 = 0; about 3 0 = 10; count 5 = 2; count 6 = 10; about 0 0 = 20
            row false 30 4 = -1; count 5 = 3
            """);
    }

    private static void majorAlone(Runs runs) {
        runs.run("a major cleaning leaves young ones where they are", Runs.KINDS, """
            policy ages 16 20 3 4 = 52
            make 0 0 = 0; make 0 1 = 1; make 0 2 = 2; row true 8 3 = 3; row true 8 4 = 4; count 13 = 18
            link 4 0 2 = -1; count 10 = 1; root 2 -1 = 2
            root 0 -1 = 0; root 3 -1 = 3; put 1 0 0 = !ClassCastException
            row true 8 5 = 5                 # old is full: 0 and 3 are gone
            count 5 = 1; about 4 0 = 0; about 5 0 = 9; about 1 0 = 23; about 2 0 = 26; count 11 = 29; count 7 = 12
            count 10 = 1; about 1 3 = 0; get 4 0 = 2
            make 1 6 = 6; about 6 0 = 29
            make 1 7 = 7; count 5 = 2        # minor: 1 by root 1, 6 by root 6, 2 by its card
            about 1 0 = 36; about 6 0 = 39; about 2 0 = 43; about 7 0 = 46; about 2 3 = 1
            """);
    }

    private static void wishes(Runs runs) {
        runs.run("wishes of young ones in a minor cleaning", Runs.KINDS, """
            policy ages 16 20 1 4 = 52
            make 0 0 = 0; wish 0 = 1; clean = 0; about 0 0 = 0; root 0 -1 = 0
            make 0 1 = 1; make 0 2 = 2; make 0 3 = 3; make 1 4 = 4; make 2 5 = 5; make 2 6 = 6; count 11 = 51
            link 2 0 3 = -1; wish 3 = 1; wish 2 = 1; weak 0 2 = -1; weak 1 3 = -1; weak 2 1 = -1; weak 3 4 = -1
            root 1 -1 = 1; root 2 -1 = 2; root 3 -1 = 3
            make 0 7 = 7                     # 4, 5, 6 by roots, then 2 with its wish, and 3 by it
            count 5 = 3; count 9 = 1; about 4 0 = 3; about 5 0 = 7; about 6 0 = 8; about 2 0 = 9; about 3 0 = 12
            about 3 7 = 1; about 2 7 = 0; strong 0 9 = -1; strong 2 9 = -1; strong 3 9 = 4; strong 1 9 = 3
            count 13 = 15; about 7 0 = 20; count 7 = 3
            granted 9 = 2; granted 9 = -1
            clean = 0; count 9 = 1; about 0 0 = 0; granted 8 = 0    # a major one sees the wish of the old one
            """);
    }
}
