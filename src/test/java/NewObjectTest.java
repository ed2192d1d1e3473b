/** Promise 1: a new object. */
public final class NewObjectTest {
    public static void main(String[] args) {
        Runs runs = new Runs();
        runs.run("no KINDS", """
            count 1 = 0; make 0 0 = !IllegalArgumentException
            kind 0 0 = 0; make 0 0 = !IllegalStateException; make 1 0 = !IllegalArgumentException
            """);
        runs.run("THE TAPE is empty", "count 0 = 0; end 1 = !IllegalArgumentException; end 0 = 0; heap = -1");
        runs.run("no heap", """
            count 2 = !IllegalStateException; count 3 = !IllegalStateException; count 4 = !IllegalStateException
            count 5 = !IllegalStateException; count 6 = !IllegalStateException; count 7 = !IllegalStateException
            count 8 = !IllegalStateException; count 9 = !IllegalStateException; count 10 = !IllegalStateException
            count 11 = !IllegalStateException; count 12 = !IllegalStateException; count 13 = !IllegalStateException
            row false 0 0 = !IllegalStateException; put 0 0 0 = !IllegalStateException
            link 0 0 0 = !IllegalStateException; get 0 0 = !IllegalStateException; root 0 -1 = !IllegalStateException
            weak 0 -1 = !IllegalStateException; strong 0 0 = !IllegalStateException
            hold 0 true = !IllegalStateException; wish 0 = !IllegalStateException; granted 0 = !IllegalStateException
            clean = !IllegalStateException; step 0 = !IllegalStateException; about 0 0 = !IllegalStateException
            block 0 0 = !IllegalStateException
            """);
        runs.run("a BROKEN text makes no heap", "policy slide 15 = -7; clean = !IllegalStateException");
        housesShareNothing(runs);
        runs.finish();
    }

    private static void housesShareNothing(Runs runs) {
        CollectorHouse one = new CollectorHouse();
        one.kind(1, 1);
        Runs.feed(one, "sweep 16 first");
        one.heap();
        one.make(0, 0);
        one.feed(1, 2, 3, 4, 5);
        runs.run("a new object beside another", """
            count 0 = 0; count 1 = 0; count 2 = !IllegalStateException; kind 0 0 = 0; policy slide 20 = 20; make 0 0 = 0
            get 0 0 = !IndexOutOfBoundsException
            """);
        runs.expect("the other one's tape", Runs.answer(one, "count 0"), "20");
        runs.expect("the other one's kinds", Runs.answer(one, "count 1"), "1");
        runs.expect("the other one's object", Runs.answer(one, "get 0 0"), "-1");
        runs.expect("the other one's room", Runs.answer(one, "block 0 1"), "14");
    }
}
