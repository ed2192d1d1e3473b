/** Promise 7: row; KINDS 16 and 17. */
public final class RowTest {
    public static void main(String[] args) {
        Runs runs = new Runs();
        runs.run("of REFERENCES: KIND 16", """
            policy slide 200 = 200
            row true 60 0 = 0; about 0 1 = 61; about 0 2 = 16; get 0 0 = -1; get 0 31 = -1; get 0 32 = -1; get 0 59 = -1
            get 0 60 = !IndexOutOfBoundsException; put 0 59 1 = !ClassCastException; put 0 0 1 = !ClassCastException
            put 0 31 1 = !ClassCastException; put 0 32 1 = !ClassCastException
            link 0 59 0 = -1; get 0 59 = 0; link 0 31 0 = -1; link 0 32 0 = -1; link 0 0 0 = -1; link 0 60 0 = !IndexOutOfBoundsException
            """);
        runs.run("else of ints: KIND 17", """
            policy slide 200 = 200
            row false 60 0 = 0; about 0 1 = 61; about 0 2 = 17; get 0 0 = 0; get 0 59 = 0
            get 0 60 = !IndexOutOfBoundsException; link 0 59 0 = !ClassCastException; link 0 0 -1 = !ClassCastException
            link 0 31 0 = !ClassCastException; link 0 32 0 = !ClassCastException
            put 0 59 9 = 0; get 0 59 = 9; put 0 0 8 = 0; put 0 60 1 = !IndexOutOfBoundsException
            """);
        runs.run("n words, 0 .. 60", """
            policy slide 200 = 200
            row true -1 0 = !IllegalArgumentException; row false -1 0 = !IllegalArgumentException
            row true 61 0 = !IllegalArgumentException; row false 61 0 = !IllegalArgumentException
            row true -2147483648 0 = !IllegalArgumentException; row false 2147483647 0 = !IllegalArgumentException
            count 4 = 0; count 5 = 0
            row true 0 0 = 0; about 0 1 = 1; about 0 2 = 16; get 0 0 = !IndexOutOfBoundsException
            link 0 0 0 = !IndexOutOfBoundsException
            row false 0 1 = 1; about 1 1 = 1; about 1 2 = 17; about 1 0 = 1; get 1 0 = !IndexOutOfBoundsException
            put 1 0 0 = !IndexOutOfBoundsException
            row true 60 2 = 2; row false 60 3 = 3; about 3 0 = 63
            """);
        runs.run("likewise: the ROOT", """
            policy slide 20 = 20
            row true 1 -1 = !IllegalArgumentException; row false 1 16 = !IllegalArgumentException; count 4 = 0
            row true 1 15 = 0; root 15 0 = 0; row false 1 0 = 1; root 0 1 = 1; row false 1 0 = 2; root 0 2 = 2
            about 1 0 = !NoSuchElementException
            """);
        runs.run("likewise: FULL", """
            policy slide 20 = 20
            row false 60 0 = -1; row true 20 0 = -1; count 5 = 2; count 4 = 0; row true 19 0 = 0; row true 0 0 = -1
            root 0 0 = 0; count 4 = 1
            """);
        runs.run("no KIND must be told for it", "policy slide 20 = 20; count 1 = 0; row true 1 0 = 0; count 1 = 0");
        Refused.withoutHeap(runs, "row true 0 0 = !IllegalStateException", "row false 60 15 = !IllegalStateException",
            "row true 61 0 = !IllegalArgumentException", "row false -1 0 = !IllegalArgumentException",
            "row true 0 16 = !IllegalArgumentException", "row false 0 -1 = !IllegalArgumentException");
        Refused.everywhere(runs, "row true 61 0 = !IllegalArgumentException", "row false 61 0 = !IllegalArgumentException",
            "row true -1 0 = !IllegalArgumentException", "row false -1 0 = !IllegalArgumentException",
            "row true 0 16 = !IllegalArgumentException", "row false 0 -1 = !IllegalArgumentException",
            "row false 61 -1 = !IllegalArgumentException");
        runs.finish();
    }
}
