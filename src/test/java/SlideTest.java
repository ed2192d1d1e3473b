/** The policy slide. */
public final class SlideTest {
    public static void main(String[] args) {
        Runs runs = new Runs();
        runs.run("slid to the beginning", Runs.KINDS, """
            policy slide 20 = 20
            count 11 = 0; count 12 = 0; count 13 = 0; count 10 = 0; make 0 0 = 0; make 1 1 = 1; make 0 2 = 2; make 2 3 = 3; count 11 = 11
            put 1 1 55 = 0; put 1 2 -1 = 0; link 1 0 2 = -1; link 2 0 3 = -1; link 2 1 2 = -1
            root 0 -1 = 0; clean = 3
            about 1 0 = 0; about 2 0 = 4; about 3 0 = 7; count 11 = 8; count 6 = 8; count 7 = 3; count 5 = 1
            get 1 1 = 55; get 1 2 = -1; get 1 0 = 2; get 2 0 = 3; get 2 1 = 2
            clean = 0; count 6 = 8; count 5 = 2
            root 3 -1 = 3; root 1 -1 = 1; root 2 -1 = 2; clean = 8; count 11 = 0; count 2 = 0
            """);
        runs.run("held ones stay", Runs.KINDS, """
            policy slide 20 = 20
            make 0 0 = 0; make 1 1 = 1; make 0 2 = 2; make 2 3 = 3; make 0 4 = 4; make 2 5 = 5
            hold 2 true = 1; root 0 -1 = 0; root 2 -1 = 2; root 3 -1 = 3; put 1 1 8 = 0
            clean = 4                        # 1 to 0, 2 stays at 7, 4 from 11 to 10, 5 from 14 to 13
            about 1 0 = 0; about 2 0 = 7; about 4 0 = 10; about 5 0 = 13; count 11 = 14; count 6 = 8; get 1 1 = 8
            row false 5 0 = 6; about 6 0 = 14; count 11 = 20
            make 2 2 = -1; count 5 = 2; count 3 = 17       # 4 to 6 are free, but not behind the last
            hold 2 false = 0
            make 2 2 = 7; about 7 0 = 14; about 4 0 = 4; about 6 0 = 8; count 7 = 7
            """);
        runs.run("it fits up to the room", Runs.KINDS, """
            policy slide 16 = 16
            row false 14 0 = 0; make 2 1 = 1; count 11 = 16; count 5 = 0
            make 2 1 = -1; count 5 = 1; root 1 -1 = 1
            make 2 2 = 2; about 2 0 = 15; count 5 = 2
            """);
        runs.run("by wishes", Runs.KINDS, """
            policy slide 20 = 20
            make 0 0 = 0; make 0 1 = 1; make 0 2 = 2; wish 1 = 1; link 1 0 2 = -1; weak 0 2 = -1
            root 0 -1 = 0; root 1 -1 = 1; root 2 -1 = 2
            clean = 3; about 1 0 = 0; about 2 0 = 3; count 9 = 1; strong 0 0 = 2
            """);
        runs.finish();
    }
}
