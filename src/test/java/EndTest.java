/** Promise 3: end. */
public final class EndTest {
    public static void main(String[] args) {
        Runs runs = new Runs();
        runs.run("n 0 .. its length, of an empty one", """
            end 0 = 0; end 1 = !IllegalArgumentException; end -1 = !IllegalArgumentException; count 0 = 0
            """);
        runs.run("n 0 .. its length", """
            feed 1 2 3 4 5 = 20
            end 21 = !IllegalArgumentException; end -1 = !IllegalArgumentException; count 0 = 20
            end 2147483647 = !IllegalArgumentException; end -2147483648 = !IllegalArgumentException; count 0 = 20
            end 20 = 20; count 0 = 20; end 19 = 19; count 0 = 19; end 20 = !IllegalArgumentException; count 0 = 19
            end 1 = 1; end 2 = !IllegalArgumentException; end 0 = 0; count 0 = 0; end 1 = !IllegalArgumentException
            """);
        runs.run("n of a full one", """
            feed 1 2 3 4 5 = 20; feed 1 2 3 4 5 = 40; feed 1 2 3 4 5 = 60; feed 1 2 3 4 5 = 80; feed 1 2 3 4 5 = 100
            end 101 = !IllegalArgumentException; count 0 = 100; end 100 = 100; end 99 = 99; count 0 = 99
            """);
        // "slid", "e 16", "4   "
        runs.run("it keeps its first n bytes", """
            feed 1936484708 1696608566 874520608 538976288 538976288 = 20; end 9 = 9; heap = 164
            feed 1936484708 1696608566 874520608 538976288 538976288 = 20; end 8 = 8; heap = 16
            feed 1936484708 1696608566 874520608 538976288 538976288 = 20; end 7 = 7; heap = -7     # 1 is out of range
            feed 1936484708 1696608566 874520608 538976288 538976288 = 20; end 6 = 6; heap = -7     # the length
            feed 1936484708 1696608566 874520608 538976288 538976288 = 20; end 5 = 5; heap = -6
            feed 1936484708 1696608566 874520608 538976288 538976288 = 20; end 4 = 4; heap = -1
            feed 1936484708 1696608566 874520608 538976288 538976288 = 20; end 0 = 0; heap = -1
            """);
        runs.run("a refused end leaves what is there", """
            feed 1936484708 1696608566 538976288 538976288 538976288 = 20; end 21 = !IllegalArgumentException; heap = 16
            """);
        Refused.everywhere(runs, "end 9 = !IllegalArgumentException", "end -1 = !IllegalArgumentException");
        runs.finish();
    }
}
