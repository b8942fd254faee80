/** Promises 2 to 5: the tape, the text and its faults. */
public final class TextTest {
    public static void main(String[] args) {
        feeding();
        ending();
        taken();
        takenInPlaceOfAll();
        noTokenOrTooLong();
        canNotStandThere();
        outOfBounds();
        onceTooOften();
        wordBehindAll();
        firstFaultMet();
        faultLeavesAllElse();
        Check.close("TextTest");
    }

    private static void feeding() {
        RingWord x = new RingWord();
        Check.due("feed(-1)", x.feed(-1), -1);
        Check.due("feed(128)", x.feed(128), -1);
        Check.due("feed(lowest)", x.feed(Integer.MIN_VALUE), -1);
        Check.due("feed(0)", x.feed(0), 1);
        Check.due("feed(127)", x.feed(127), 2);
        for (int n = 3; n <= 160; n++) {
            Check.due("feed(32), byte " + n, x.feed(32), n);
        }
        Check.due("feed(32), byte 161", x.feed(32), -3);
        Check.due("feed(128), byte 161", x.feed(128), -1);
        Check.due("full tape has", x.count(2), 160);
    }

    private static void ending() {
        RingWord x = new RingWord();
        Check.due("end(0) of none", x.end(0), 0);
        Check.due("end(1) of none", x.end(1), -1);
        Check.tell(x, "");
        feed(x, "word 1");
        Check.due("end(7) of 6", x.end(7), -1);
        Check.due("end(-1)", x.end(-1), -1);
        Check.due("end(6) of 6", x.end(6), 6);
        Check.due("end(5) of 6", x.end(5), 6);
        Check.due("end(5) of 5", x.end(5), 5);
        Check.due("the tape has", x.count(2), 5);
        feed(x, "0;meek 7 1 0 1;");
        Check.due("the text kept and fed on", x.text(), 2);
        Check.due("its kind", x.station(0, 0), 2);
        Check.due("the tape is empty then", x.count(2), 0);
        Check.due("end(1) behind a text", x.end(1), -1);
    }

    private static void feed(RingWord x, String text) {
        for (int j = 0; j < text.length(); j++) {
            x.feed(text.charAt(j));
        }
    }

    private static void taken() {
        RingWord x = new RingWord();
        Check.due("lines", Check.tell(x, "plain 0 1 0 1; greedy 99 9 9 9;word 3;meek 1 2 3 4;fair 10 5 6 07;"), 5);
        Check.due("fault()", x.fault(), 0);
        Check.due("stations", x.rule(0), 4);
        Check.due("the word", x.rule(1), 3);
        int[][] rows = {{0, 0, 1, 0, 1, 0, 0}, {1, 99, 9, 9, 9, 0, 0}, {2, 1, 2, 3, 4, 0, 0}, {3, 10, 5, 6, 7, 0, 0}};
        for (int i = 0; i < rows.length; i++) {
            for (int what = 0; what <= 6; what++) {
                Check.due("station(" + i + ", " + what + ")", x.station(i, what), rows[i][what]);
            }
        }
        Check.due("without blanks", Check.tell(x, "plain1 2 3 4;plain 5 6 7 8;"), 2);
        Check.due("blanks all over", Check.tell(x, "   plain   1   2   3   4   ;   word 0 ;  "), 2);
        Check.due("no word: at the first", x.rule(1), 0);
        Check.due("figures with noughts", Check.tell(x, "word 00;fair 05 09 00 01;"), 2);
        Check.due("their queue", x.station(0, 1), 5);
        Check.due("their hold", x.station(0, 2), 9);
        Check.due("blanks alone", Check.tell(x, "     "), 0);
        Check.due("no stations then", x.rule(0), 0);
        Check.due("five and a word", Check.tell(x,
                "plain 1 1 1 1;plain 2 1 1 1;plain 3 1 1 1;plain 4 1 1 1;plain 5 1 1 1;word 4;"), 6);
        Check.due("the fifth has the word", x.rule(1), 4);
        Check.due("the fifth's queue", x.station(4, 1), 5);
    }

    private static void takenInPlaceOfAll() {
        RingWord x = Check.told("greedy 99 9 9 9;fair 50 2 1 1;");
        x.visits(20);
        x.post(0, 99);
        x.see(1, 0, 1);
        x.keep(0);
        x.keep(1);
        x.sheet(0, 0, 3);
        x.give(1);
        x.runs(50, 0);
        Check.due("text()", Check.tell(x, "plain 3 2 1 1;"), 1);
        int[] rules = {1, 0, 0, 0, 0, 0, 3, 2};
        for (int what = 0; what < rules.length; what++) {
            Check.due("in place of all: rule(" + what + ")", x.rule(what), rules[what]);
        }
        Check.due("its own sent", x.station(0, 5), 0);
        Check.due("tired", x.station(0, 6), 0);
        Check.due("seen", x.count(0), 0);
        Check.due("images", x.count(1), 0);
        Check.due("back(0)", x.back(0), -2);
        Check.due("back(1)", x.back(1), -2);
        Check.due("sheets stay", x.count(3), 3);
        Check.due("the second is gone", x.station(1, 0), -1);
        Check.tell(x, "meek 3 2 1 1;");
        Check.due("its queue is gone", x.rule(7), 2);
    }

    /** On an object of its own, and on one used before: the answer is of the text alone. */
    private static void fault(String text, int which, int place) {
        RingWord x = new RingWord();
        Check.due("\"" + text + "\"", Check.tell(x, text), -10 - place);
        Check.due("fault of \"" + text + "\"", x.fault(), which);
        Check.due("\"" + text + "\" leaves an empty tape", x.count(2), 0);
        Check.due("\"" + text + "\" tells nothing", x.rule(0), 0);
        RingWord y = Check.told("word 1;plain 1 1 1 1;plain 1 1 1 1;");
        Check.due("\"" + text + "\" as the second", Check.tell(y, text), -10 - place);
        Check.due("\"" + text + "\" leaves the first", y.rule(0), 2);
    }

    private static void noTokenOrTooLong() {
        fault("?", 1, 0);
        fault("Plain 1 1 1 1;", 1, 0);
        fault("plain\t1 1 1 1;", 1, 5);
        fault("plain 1 1 1 1:", 1, 13);
        fault("plain -1 1 1 1;", 1, 6);
        fault("plain 1 1 1 1;\n", 1, 14);
        fault("plaiN 1 1 1 1;", 2, 0);
        fault("`", 1, 0);
        fault("{", 1, 0);
        fault("/", 1, 0);
        fault(":", 1, 0);
        fault("<", 1, 0);
        fault("\0", 1, 0);
        fault("\u007f", 1, 0);
        fault("plain 100 1 1 1;", 1, 6);
        fault("plain 000 1 1 1;", 1, 6);
        fault("word   123456;", 1, 7);
        fault("123", 1, 0);
        fault("plain 1 1 1 1 123;", 1, 14);
        fault("plain 1 1 1 123", 1, 12);
    }

    private static void canNotStandThere() {
        fault("plains 1 1 1 1;", 2, 0);
        fault("plai 1 1 1 1;", 2, 0);
        fault("  wor 1;", 2, 2);
        fault("xlain 1 1 1 1;", 2, 0);
        fault("plaix 1 1 1 1;", 2, 0);
        fault("yord 0;", 2, 0);
        fault("a", 2, 0);
        fault("z;", 2, 0);
        fault("plain 1 1 1 1; x", 2, 15);
        fault("5", 2, 0);
        fault(";", 2, 0);
        fault("plain 1 1 1 1;;", 2, 14);
        fault("plain", 2, 5);
        fault("plain  ", 2, 7);
        fault("plain 1 1 1 1", 2, 13);
        fault("plain 1 1 1 1  ", 2, 15);
        fault("plain 1 1;", 2, 9);
        fault("plain ;", 2, 6);
        fault("plain 1 meek 1 1;", 2, 8);
        fault("plain 1 1 1 1 1;", 2, 14);
        fault("plain 1 1 1 1 word 0;", 2, 14);
        fault("word;", 2, 4);
        fault("word", 2, 4);
        fault("word word;", 2, 5);
        fault("word 0", 2, 6);
        fault("word 0 0;", 2, 7);
        fault("wordplain 0;", 2, 0);
        fault("greedyplain 1 1 1 1;", 2, 0);
    }

    private static void outOfBounds() {
        fault("plain 0 0 0 1;", 3, 8);
        fault("plain 0 10 0 1;", 3, 8);
        fault("plain 0 1 10 1;", 3, 10);
        fault("plain 0 1 0 0;", 3, 12);
        fault("plain 0 1 0 10;", 3, 12);
        fault("greedy 0 0 0 1;", 3, 9);
        fault("meek 0 1 10 1;", 3, 9);
        fault("fair 0 1 0 0;", 3, 11);
        fault("word 5;", 3, 5);
        fault("word 05;", 3, 5);
        fault("word  99;", 3, 6);
    }

    private static void onceTooOften() {
        String two = "plain 1 1 1 1;meek 1 1 1 1;";
        fault("word 0;word 0;" + two, 4, 7);
        fault(two + "word 1; word", 4, 35);
        fault("word 0; word ?", 4, 8);
        String four = two + "greedy 1 1 1 1;fair 1 1 1 1;";
        String five = four + "plain 1 1 1 1;";
        fault(five + "plain 1 1 1 1;", 5, five.length());
        fault(five + " fair", 5, five.length() + 1);
        fault(five + "greedy 0 0 0 0;", 5, five.length());
        fault(five + "meek;", 5, five.length());
        Check.due("five are taken", Check.tell(new RingWord(), five), 5);
    }

    private static void wordBehindAll() {
        fault("word 0;", 6, 7);
        fault("word 0;   ", 6, 10);
        fault("plain 1 1 1 1;word 1;", 6, 21);
        fault("word 4;plain 1 1 1 1;plain 1 1 1 1;plain 1 1 1 1;plain 1 1 1 1;", 6, 63);
        Check.due("word ahead of its station", Check.tell(new RingWord(), "word 1;plain 1 1 1 1;plain 1 1 1 1;"), 3);
    }

    private static void firstFaultMet() {
        fault("plain 0 0 ?", 3, 8);
        fault("plain ; ?", 2, 6);
        fault("plain 1 ? 0", 1, 8);
        fault("word 7 ?", 3, 5);
        fault("x ?", 2, 0);
        fault("word 1; x", 2, 8);
        fault("word 1;word", 4, 7);
        fault("100?", 1, 0);
        fault("word 1;?", 1, 7);
    }

    private static void faultLeavesAllElse() {
        RingWord x = Check.told("greedy 99 9 9 9;fair 50 2 1 1;word 1;");
        x.visits(7);
        x.see(0, 1, 50);
        x.keep(0);
        x.sheet(0, 1, 2);
        x.read(0, 1, 0, 2);
        String before = Check.state(x);
        Check.due("a fault behind four lines", Check.tell(x, "plain 1 1 1 1;word 0;meek 2 2 2 2;fair 3 3 3 3;?"), -57);
        Check.due("its kind", x.fault(), 1);
        Check.holds("all else stays", before.equals(Check.state(x)));
        Check.due("the image stays", x.back(0), 7);
        Check.due("a text without fault", Check.tell(x, "plain 1 1 1 1;"), 1);
        Check.due("fault() is of the latest", x.fault(), 0);
    }
}
