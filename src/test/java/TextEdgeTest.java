/** The boundary cases of promises 1 to 5, and of what 'Terms' says of the tape, its tokens and its faults. */
public final class TextEdgeTest {
    private static final String[] KINDS = {"plain", "greedy", "meek", "fair"};
    private static final String ONE = "plain 1 1 1 1;";

    public static void main(String[] args) {
        newObject();
        byteFed();
        tapeFull();
        tapeEnded();
        tapeTold();
        placesOfFaults();
        latestFault();
        everyByte();
        asLongAsMayBe();
        blanksBetween();
        tooLong();
        noOtherTokenThere();
        theEnd();
        namesThatBeginNoLine();
        boundsOfNumbers();
        wordTwice();
        sixthStation();
        wordBehindAll();
        firstMet();
        noLines();
        inPlaceOfAll();
        Check.close("TextEdgeTest");
    }

    private static String blanks(int n) {
        return " ".repeat(n);
    }

    private static String stations(int n) {
        return ONE.repeat(n);
    }

    private static void newObject() {
        Run.about("No STATIONS; SHEETS of nothing.");
        Run.fresh().rows("rule(0) = 0", "station(0, 0) ! BAD", "count(3) = NONE", "count(4) = 0", "count(5) = 0",
                "lay(0, 0, 0) ! -11", "lay(1, 0, 0) ! -11", "lay(2, 0, 0) ! -11", "lay(3, 0, 0) ! -11");
        for (int k = 0; k <= 3; k++) {
            Run.fresh().rows("torn() = 0", "read(" + k + ", 0, 0, 1) = 0", "torn() = 1");
        }
        Run.about("if there are none, at none");
        Run.fresh().rows("rule(1) = NONE", "rule(7) = 0").taken("", 0).rows("rule(1) = NONE", "rule(7) = 0");
        Run.about("TIME, VISITS, SENT, LOST (0 at first)");
        Run.fresh().rows("rule(2) = 0", "rule(3) = 0", "rule(4) = 0", "rule(5) = 0", "rule(6) = 0");
        Run.fresh().rows("count(0) = 0", "count(1) = 0", "count(2) = 0", "fault() = 0", "torn() = 0");
        Run.about("(the first one at first;");
        Run.of(stations(1)).rows("rule(1) = 0");
        Run.of(stations(5)).rows("rule(1) = 0", "rule(2) = 0", "rule(3) = 0", "rule(4) = 0", "rule(5) = 0");
        Run.about("each STATION has SENT so many itself (0 at first), and is TIRED, or not (not at first)");
        for (String kind : KINDS) {
            Run.of(kind + " 9 1 1 1;").rows("station(0, 5) = 0", "station(0, 6) = 0");
        }
    }

    private static void byteFed() {
        Run.about("A byte (0 to 127) comes behind THE TAPE: how many it has.");
        String[] wrong = {"feed(-1) ! BAD", "feed(128) ! BAD", "feed(-128) ! BAD", "feed(255) ! BAD", "feed(256) ! BAD",
            "feed(LOW) ! BAD", "feed(HIGH) ! BAD"};
        Run.fresh().rows(wrong).rows("feed(0) = 1", "feed(127) = 2").rows(wrong).rows("count(2) = 2");
        Run.rich().feed("fair 2 2 2 2").rows(wrong).rows("count(2) = 12", "feed(59) = 13", "text() = 1");
        // A zero is a byte as others are: it is no end of the tape.
        Run.fresh().feed(ONE + "\0").rows("count(2) = 15", "text() = -24", "fault() = 1");
    }

    private static void tapeFull() {
        Run.about("FULL: more than 160.");
        Run.fresh().feed("fair 7 3 2 1" + blanks(147)).rows("count(2) = 159", "feed(59) = 160", "count(2) = 160",
                "feed(59) ! FULL", "feed(0) ! FULL", "feed(127) ! FULL", "count(2) = 160", "text() = 1",
                "station(0, 1) = 7", "feed(32) = 1");
        Run.about("the first that fits");
        Run.fresh().feed(blanks(160)).rows("feed(-1) ! BAD", "feed(128) ! BAD", "feed(32) ! FULL", "end(159) = 160",
                "feed(32) = 160", "feed(32) ! FULL");
    }

    private static void tapeEnded() {
        Run.about("THE TAPE keeps its first n bytes: how many it had.");
        Run.fresh().rows("end(-1) ! BAD", "end(1) ! BAD", "end(160) ! BAD", "end(LOW) ! BAD", "end(HIGH) ! BAD",
                "end(0) = 0");
        Run.fresh().feed("word 1").rows("end(7) ! BAD", "end(-1) ! BAD", "end(160) ! BAD", "end(LOW) ! BAD",
                "end(HIGH) ! BAD", "end(6) ! 6", "count(2) = 6", "end(5) = 6", "count(2) = 5", "end(6) ! BAD",
                "end(1) = 5", "end(0) = 1", "count(2) = 0", "end(0) = 0", "end(1) ! BAD");
        Run.fresh().feed(blanks(160)).rows("end(161) ! BAD", "end(160) ! 160", "end(159) = 160", "end(160) ! BAD",
                "end(0) = 159");
        Run.fresh().feed("?" + ONE).rows("end(1) = 15", "text() = -10");
        Run.fresh().feed(ONE + "?").rows("end(14) = 15", "text() = 1");
        Run.rich().feed(ONE).rows("end(15) ! BAD", "end(-1) ! BAD", "end(14) ! 14");
    }

    private static void tapeTold() {
        Run.about("THE TAPE (empty then) tells all: how many lines");
        Run.fresh().taken(ONE, 1).rows("end(1) ! BAD", "text() = 0", "rule(0) = 0");
        Run.fresh().feed("?").rows("text() = -10", "count(2) = 0", "end(1) ! BAD", "text() = 0", "fault() = 0");
        Run.fresh().taken(stations(5) + "word 0;", 6);
        Run.about("that which was told stays");
        Run.rich().fault("?", 1, 0).fault(";", 2, 0).fault("plain 0 0 0 1;", 3, 8).fault("word 0;word 0;", 4, 7)
                .fault(stations(5) + ONE, 5, 70).fault("word 0;", 6, 7).fault(ONE + "meek 2 2 2 2;word 1;?", 1, 34);
        Run.fresh().rows("visits(3) = 0", "keep(0) = 0").fault(ONE + "?", 1, 14);
    }

    private static void placesOfFaults() {
        Run.about("THE TAPE has 160 bytes, places from 0.");
        Run.fresh().fault("?", 1, 0).fault(" ?", 1, 1).fault(blanks(159) + "?", 1, 159)
                .fault(blanks(158) + "?;", 1, 158).fault(blanks(159) + "7", 2, 159);
        Run.about("or the end: the length");
        Run.fresh().fault("fair 7 3 2 1" + blanks(148), 2, 160).fault("fair 7 3 2 1" + blanks(147), 2, 159);
        Run.about("Behind all (the length)");
        Run.fresh().fault("word 0;" + blanks(153), 6, 160).fault("word 0;", 6, 7).fault("word 0; ", 6, 8);
        Run.about("-10 less the place of its FAULT");
        Run.fresh().feed("?").rows("text() = -10").feed(blanks(159) + "?").rows("text() = -169");
        Run.fresh().feed("word 0;" + blanks(153)).rows("text() = -170");
    }

    private static void latestFault() {
        Run.about("The FAULT of the latest text(); 0.");
        Run.fresh().rows("fault() = 0").feed("?").rows("fault() = 0", "text() = -10", "fault() = 1").feed(";")
                .rows("fault() = 1", "end(0) = 1", "fault() = 1", "visits(1) = 0", "feed(59) = 1", "text() = -10",
                        "fault() = 2", "text() = 0", "fault() = 0").feed("word 5;").rows("text() = -15", "fault() = 3")
                .feed("word 0;word").rows("text() = -17", "fault() = 4").feed("word 0;").rows("text() = -17", "fault() = 6");
        Run.fresh().feed(stations(6)).rows("text() = -80", "fault() = 5", "keep(0) = 0", "back(0) = 0", "fault() = 5");
        Run.rich().rows("fault() = 1").taken(ONE, 1);
    }

    /** Each byte by itself, and behind a figure: what it is, is known from its number alone. */
    private static void everyByte() {
        Run.about("NAMES (a .. z), NUMBERS (1 or 2 figures), one ; .");
        for (int c = 0; c <= 127; c++) {
            boolean isName = c >= 97 && c <= 122;
            boolean isFigure = c >= 48 && c <= 57;
            String alone = String.valueOf((char) c);
            String behind = "plain 1 1 1 1" + alone + ";";
            if (c == 32) {
                Run.fresh().taken(alone, 0).taken(behind, 1);
            } else if (isName) {
                Run.fresh().fault(alone, 2, 0).fault(behind, 2, 13);
            } else if (isFigure) {
                Run.fresh().fault(alone, 2, 0).fault(behind, 3, 12);
            } else if (c == 59) {
                Run.fresh().fault(alone, 2, 0).fault(behind, 2, 14);
            } else {
                Run.fresh().fault(alone, 1, 0).fault(behind, 1, 13);
            }
        }
    }

    private static void asLongAsMayBe() {
        Run.about("each as long as may be");
        Run.fresh().fault("plainplain 1 1 1 1;", 2, 0).fault("wordfair 1 1 1 1;", 2, 0).fault("plainx", 2, 0)
                .fault("fair 1 1 1 1;wordy 0;", 2, 13);
        Run.of("plain 12 3 4 5;").rows("station(0, 1) = 12", "station(0, 2) = 3", "station(0, 3) = 4", "station(0, 4) = 5");
        Run.of("plain 1 2 3 4;").rows("station(0, 1) = 1", "station(0, 2) = 2", "station(0, 3) = 3", "station(0, 4) = 4");
        Run.fresh().fault("plain 1234;", 1, 6).fault("plain 12 34;", 3, 9).fault("fair 1 1 1 1;;", 2, 13);
    }

    private static void blanksBetween() {
        Run.about("blanks (32) between");
        Run.fresh().taken("plain1 1 1 1;", 1).taken("plain 1 1 1 1 ;", 1).taken(ONE + ONE, 2).taken(ONE + " " + ONE, 2)
                .taken("word0;" + ONE, 2).taken("   " + ONE + "   ", 1).taken("plain    1 1   1 1;word     0 ;", 2);
        Run.fresh().fault("pl ain 1 1 1 1;", 2, 0).fault("word 0 0;" + ONE, 2, 7).fault("plain 1 1 1 1 1;", 2, 14);
        int[] others = {0, 9, 10, 13, 31, 33};
        for (int c : others) {
            Run.fresh().fault("plain" + (char) c + "1 1 1 1;", 1, 5);
        }
    }

    private static void tooLong() {
        Run.about("a NUMBER that is too long (its first byte)");
        for (String kind : KINDS) {
            int at = kind.length() + 1;
            Run.fresh().fault(kind + " 100 1 1 1;", 1, at).fault(kind + " 000 1 1 1;", 1, at)
                    .fault(kind + " 1 001 1 1;", 1, at + 2).fault(kind + " 1 1 001 1;", 1, at + 4)
                    .fault(kind + " 1 1 1 001;", 1, at + 6).taken(kind + " 01 01 01 01;", 1)
                    .rows("station(0, 1) = 1", "station(0, 2) = 1", "station(0, 3) = 1", "station(0, 4) = 1")
                    .taken(kind + " 00 09 00 09;", 1).rows("station(0, 1) = 0", "station(0, 2) = 9");
        }
        Run.fresh().fault("word 000;" + ONE, 1, 5).fault("word  0000;" + ONE, 1, 6).taken("word 00;" + ONE, 2);
        Run.fresh().fault("123", 1, 0).fault("  123", 1, 2).fault("plain 1 1 1 1 100;", 1, 14).fault("plain 1 1 1 100", 1, 12)
                .fault("12", 2, 0).fault("plain 1 1 1 1 10;", 2, 14);
    }

    private static void wrongTokenAt(String[] line, int at, String[] wrong) {
        StringBuilder ahead = new StringBuilder();
        for (int j = 0; j < at; j++) {
            ahead.append(line[j]).append(' ');
        }
        for (String token : wrong) {
            Run.fresh().fault(ahead + token, 2, ahead.length());
            Run.fresh().fault(ahead + token + " ; ?", 2, ahead.length());
        }
    }

    private static void noOtherTokenThere() {
        Run.about("2 a TOKEN that can not stand there");
        for (String kind : KINDS) {
            String[] line = {kind, "1", "1", "1", "1", ";"};
            wrongTokenAt(line, 0, new String[] {"1", ";"});
            for (int at = 1; at <= 4; at++) {
                wrongTokenAt(line, at, new String[] {";", kind, "word", "x"});
            }
            wrongTokenAt(line, 5, new String[] {"1", kind, "word"});
        }
        String[] line = {"word", "0", ";"};
        wrongTokenAt(line, 1, new String[] {";", "word", "plain"});
        wrongTokenAt(line, 2, new String[] {"0", "word", "plain"});
        wrongTokenAt(new String[] {ONE}, 1, new String[] {"1", ";"});
    }

    private static void theEnd() {
        Run.about("or the end: the length");
        for (String kind : KINDS) {
            String[] cut = {kind, kind + " 1", kind + " 1 1", kind + " 1 1 1", kind + " 1 1 1 1"};
            for (String text : cut) {
                Run.fresh().fault(text, 2, text.length()).fault(text + "  ", 2, text.length() + 2)
                        .fault(ONE + text, 2, 14 + text.length());
            }
        }
        Run.fresh().fault("word", 2, 4).fault("word 0", 2, 6).fault("word  ", 2, 6).fault(ONE + "word 0", 2, 20);
    }

    private static void namesThatBeginNoLine() {
        Run.about("a NAME that begins no line");
        String[] names = {"plai", "plains", "plaim", "qlain", "greed", "greedyy", "greedz", "hreedy", "mee", "meekk", "meel",
            "leek", "fai", "fairs", "faiq", "gair", "wor", "words", "wore", "xord", "a", "z", "line", "text", "n"};
        for (String name : names) {
            Run.fresh().fault(name + " 1 1 1 1;", 2, 0).fault(ONE + "  " + name, 2, 16);
        }
    }

    private static void boundsOfNumbers() {
        Run.about("with a QUEUE (0 to 99), a HOLD (1 to 9), a GAIN (0 to 9), a LINK (1 to 9) to the next one");
        for (int kind = 0; kind <= 3; kind++) {
            Run.of(KINDS[kind] + " 0 1 0 1;").rows("station(0, 0) = " + kind, "station(0, 1) = 0", "station(0, 2) = 1",
                    "station(0, 3) = 0", "station(0, 4) = 1");
            Run.of(KINDS[kind] + " 99 9 9 9;").rows("station(0, 0) = " + kind, "station(0, 1) = 99", "station(0, 2) = 9",
                    "station(0, 3) = 9", "station(0, 4) = 9");
        }
        Run.about("3 a NUMBER out of its bounds");
        for (String kind : KINDS) {
            int at = kind.length() + 1;
            Run.fresh().fault(kind + " 0 0 0 1;", 3, at + 2).fault(kind + " 0 10 0 1;", 3, at + 2)
                    .fault(kind + " 0 1 10 1;", 3, at + 4).fault(kind + " 0 1 0 0;", 3, at + 6)
                    .fault(kind + " 0 1 0 10;", 3, at + 6).fault(kind + " 0 99 0 1;", 3, at + 2)
                    .fault(kind + " 99 9 99 9;", 3, at + 5).fault(kind + " 99 9 9 99;", 3, at + 7);
        }
        Run.about("word: the STATION that has THE WORD (0 to 4).");
        Run.of("word 0;" + stations(5)).rows("rule(1) = 0");
        Run.of("word 4;" + stations(5)).rows("rule(1) = 4");
        Run.fresh().fault("word 5;" + stations(5), 3, 5).fault("word 05;" + stations(5), 3, 5)
                .fault("word 99;" + stations(5), 3, 5).fault("word 10;" + stations(5), 3, 5);
    }

    private static void wordTwice() {
        Run.about("4 word for the second time (its NAME)");
        Run.fresh().fault("word 0;word 0;" + ONE, 4, 7).fault("word 0;  word 1;" + ONE + ONE, 4, 9)
                .fault("word 0;" + stations(5) + "word 0;", 4, 77).fault("word 4;word", 4, 7).fault("word 0;word ?", 4, 7)
                .fault("word 0;word 5;", 4, 7).taken("word 0;" + ONE, 2).taken("word 0;" + ONE, 2);
    }

    private static void sixthStation() {
        Run.about("5 the 6th STATION (its NAME)");
        for (String kind : KINDS) {
            Run.fresh().fault(stations(5) + kind + " 1 1 1 1;", 5, 70).fault(stations(5) + " " + kind, 5, 71)
                    .fault(stations(5) + kind + " 0 0 0 0;", 5, 70).fault(stations(5) + kind + "?", 5, 70)
                    .taken(stations(4) + kind + " 1 1 1 1;", 5).rows("rule(0) = 5");
        }
        Run.about("(5 at most, by order, in a ring)");
        Run.of("plain 1 1 1 1;greedy 2 2 2 2;meek 3 3 3 3;fair 4 4 4 4;plain 5 5 5 5;").rows("rule(0) = 5",
                "station(0, 1) = 1", "station(1, 1) = 2", "station(2, 1) = 3", "station(3, 1) = 4", "station(4, 1) = 5",
                "station(5, 1) ! BAD", "station(0, 0) = 0", "station(1, 0) = 1", "station(2, 0) = 2", "station(3, 0) = 3");
        Run.of(stations(5) + "word 4;").rows("rule(0) = 5", "rule(1) = 4");
    }

    private static void wordBehindAll() {
        Run.about("6 a STATION of word that there is not");
        for (int n = 0; n <= 4; n++) {
            String word = "word " + n + ";";
            Run.fresh().fault(word + stations(n), 6, 7 + 14 * n).fault(stations(n) + word + " ", 6, 8 + 14 * n)
                    .taken(word + stations(n + 1), n + 2).rows("rule(1) = " + n)
                    .taken(stations(n + 1) + word, n + 2).rows("rule(1) = " + n);
        }
        Run.fresh().fault("word 3;" + ONE + "?", 1, 21).fault("word 3;" + ONE + "x", 2, 21)
                .fault("word 3;plain 1 0", 3, 15).fault("word 3;word", 4, 7).fault("word 4;" + stations(4), 6, 63);
    }

    private static void firstMet() {
        Run.about("the first met as it is read (a TOKEN is read when the one before has been taken)");
        Run.fresh().fault("plain 0 0?", 3, 8).fault("plain 0 0 100", 3, 8).fault("plain 0 1 0 0;?", 3, 12)
                .fault("word 5?", 3, 5).fault("x?", 2, 0).fault("plain x?", 2, 6).fault("plain;?", 2, 5)
                .fault("plain 1 ? 0", 1, 8).fault("plain?", 1, 5).fault("plain 100?", 1, 6).fault("100?", 1, 0)
                .fault("?100", 1, 0).fault("word 0;?", 1, 7).fault("word 0;word?", 4, 7).fault(stations(5) + "fair?", 5, 70)
                .fault(stations(5) + "x", 2, 70).fault(stations(5) + "?", 1, 70).fault("plain 1 1 1 1?", 1, 13);
    }

    private static void noLines() {
        Run.about("text: { line }");
        Run.fresh().taken("", 0).taken(" ", 0).taken(blanks(160), 0).rows("rule(0) = 0", "rule(1) = NONE");
        Run.rich().taken("", 0).rows("rule(0) = 0", "rule(1) = NONE", "station(0, 0) ! BAD");
    }

    private static void inPlaceOfAll() {
        Run.about("A text that is taken tells all, in place of what there was; nothing is SEEN; IMAGES are gone.");
        String[] texts = {"", ONE, "fair 9 9 9 9;meek 8 8 8 8;", "word 3;" + stations(5)};
        for (String text : texts) {
            int lines = (int) text.chars().filter(c -> c == ';').count();
            // What was tried ahead leaves nothing behind either.
            Run run = Run.rich().rows("runs(200, 0)", "ahead(0, 200, 0)").taken(text, lines).rows("count(0) = 0", "count(1) = 0", "back(0) ! STATE",
                    "back(1) ! STATE", "rule(2) = 0", "rule(3) = 0", "rule(4) = 0", "rule(5) = 0");
            // SHEETS and torn() are of no text: but for them all is as on an object that is told nothing else.
            Run other = Run.fresh().taken(text, lines).rows("sheet(0, 0, 4)", "read(0, 1, 0, 1)");
            Run.same("a text", Probe.world(other.calls()), Probe.world(run.calls()));
            run.rows("count(3) = 4", "torn() = 3", "keep(0) = 0", "keep(1) = 0");
        }
    }
}
