/** Promises 29 and 30, and what of count() is of images. */
public final class ImageTest {
    public static void main(String[] args) {
        allOfIt();
        twoOfThem();
        ofNoStations();
        whatIsNotOfIt();
        wrong();
        Check.close("ImageTest");
    }

    private static void allOfIt() {
        RingWord x = Check.told("fair 90 4 9 9;greedy 99 9 9 9;meek 5 1 0 2;word 1;");
        x.visits(3);
        Check.due("keep(1)", x.keep(1), 0);
        x.visits(5);
        x.post(1, 99);
        // Such as will be, so that kinds() and gains() tell one from another.
        x.see(3, 0, x.ahead(0, 3, 0));
        x.see(9, 1, x.ahead(1, 9, 0));
        Check.holds("some gains are left, some are not", x.gains(0) > 0 && x.gains(0) < 1023);
        String then = Check.state(x);
        Check.due("keep(1), in place of that", x.keep(1), 1);
        Check.holds("nothing is changed", then.equals(Check.state(x)));
        x.visits(33);
        x.change(0, 1);
        x.alter(2, 0, 0);
        x.give(2);
        x.forget(0);
        x.see(5, 1, 1);
        x.see(6, 2, 2);
        Check.holds("all is changed", !then.equals(Check.state(x)));
        Check.due("back(1)", x.back(1), 8);
        Check.holds("all is as it was", then.equals(Check.state(x)));
        x.visits(5);
        Check.due("back(1) again", x.back(1), 8);
        Check.holds("all is as it was, again", then.equals(Check.state(x)));
        Check.due("the second seen is as it was", x.see(9, 1, 9), 3);
    }

    private static void twoOfThem() {
        RingWord x = Check.told("plain 9 1 0 1;");
        Check.due("images", x.count(1), 0);
        Check.due("keep(0)", x.keep(0), 0);
        Check.due("images, 1", x.count(1), 1);
        x.visits(2);
        Check.due("back(1), none", x.back(1), -2);
        Check.due("refused", x.rule(3), 2);
        Check.due("keep(1)", x.keep(1), 0);
        Check.due("images, 2", x.count(1), 2);
        x.visits(3);
        Check.due("back(0)", x.back(0), 0);
        Check.due("queue of image 0", x.station(0, 1), 9);
        Check.due("back(1)", x.back(1), 2);
        Check.due("queue of image 1", x.station(0, 1), 7);
        Check.due("keep(0) again", x.keep(0), 1);
        Check.due("images, still", x.count(1), 2);
        x.visits(1);
        Check.due("back(0), the new one", x.back(0), 2);
        x.alter(0, 1, 55);
        Check.due("image 1 is not the same", x.back(1), 2);
        Check.due("its queue", x.station(0, 1), 7);
    }

    private static void ofNoStations() {
        RingWord x = new RingWord();
        x.visits(4);
        Check.due("keep(0) of none", x.keep(0), 0);
        x.visits(4);
        Check.due("back(0) of none", x.back(0), 4);
        Check.due("still none", x.rule(0), 0);
        Check.due("a text", Check.tell(x, "plain 9 1 0 1;"), 1);
        Check.due("images are gone", x.back(0), -2);
        Check.due("keep(0): there was none", x.keep(0), 0);
    }

    private static void whatIsNotOfIt() {
        RingWord x = Check.told("plain 9 1 0 1;");
        x.keep(0);
        x.feed('a');
        x.sheet(0, 0, 5);
        x.read(0, 1, 0, 1);
        x.back(0);
        Check.due("the tape stays", x.count(2), 1);
        Check.due("sheets stay", x.count(3), 5);
        Check.due("torn() stays", x.torn(), 3);
        Check.due("the fault of the tape", x.text(), -10);
        x.back(0);
        Check.due("fault() stays", x.fault(), 2);
    }

    private static void wrong() {
        RingWord x = Check.told("plain 9 1 0 1;");
        int[] none = {-1, 2, 3, Integer.MIN_VALUE, Integer.MAX_VALUE};
        for (int k : none) {
            Check.due("keep(" + k + ")", x.keep(k), -1);
            Check.due("back(" + k + ")", x.back(k), -1);
        }
        Check.due("no images", x.count(1), 0);
    }
}
