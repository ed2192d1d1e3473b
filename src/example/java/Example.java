/** A heap that is slid: what nothing leads to goes, the rest moves down, and a last wish brings one back. */
public final class Example {
    public static void main(String[] args) {
        CollectorHouse house = new CollectorHouse();
        int pair = house.kind(2, 1);                // two words: word 0 is a reference, word 1 an int
        tell(house, "slide 40");
        System.out.println("words in all: " + house.heap());

        int a = house.make(pair, 0);                // root 0 has it
        int b = house.make(pair, 1);
        int c = house.row(false, 10, 2);            // a row of ten ints
        house.link(b, 0, b);
        house.put(b, 1, 77);
        house.weak(0, a);
        house.wish(c);
        house.root(0, -1);                          // nothing leads to a any more
        house.root(2, -1);                          // nor to c, but c has a last wish

        System.out.println("free by a cleaning: " + house.clean());
        System.out.println("b is at " + house.about(b, 0) + " and has " + house.get(b, 1));
        System.out.println("weak 0 has " + house.strong(0, 3));
        System.out.println("granted: " + house.granted(3) + ", which was " + c);
        System.out.println("words that moved: " + house.count(6));
        try {
            house.get(a, 1);
        } catch (java.util.NoSuchElementException e) {
            System.out.println("a is gone");
        }
    }

    /** Twenty bytes a call come to the tape; end cuts off what was filled up. */
    private static void tell(CollectorHouse house, String text) {
        for (int from = 0; from < text.length(); from += 20) {
            int[] five = new int[5];
            for (int i = 0; i < 20; i++) {
                int one = from + i < text.length() ? text.charAt(from + i) : 0;
                five[i / 4] = five[i / 4] << 8 | one;
            }
            house.feed(five[0], five[1], five[2], five[3], five[4]);
        }
        house.end(text.length());
    }
}
