import java.util.function.Consumer;

/** What is full: THE TEXT, WORDS, VOICES, SEEN, THE BOOK, what can be undone, THE LIST, USUAL, HEARD. */
public final class FullTest {
    private static final int U = BeansBox.UNKNOWN, O = BeansBox.OUTSIDE, N = BeansBox.NOT, F = BeansBox.FULL;
    private static final String EIGHT =
            "b0 0 0;w0 0 1;w9 1 2;w90 2 3;w99 3 4;w900 4 5;w909 5 6;w990 6 7;w999 7 8;v0;v1;v10;v100;";
    private static final Due DUE = new Due("FullTest");

    public static void main(String[] args) {
        text();
        textOfAFault();
        wordsAndVoices();
        ninthWord();
        fifthVoice();
        deedsOfEight();
        triedOfEight();
        seen();
        book();
        undoneOfEachKind();
        refusedLosesNoOldest();
        listByHearing();
        listByTakingBack();
        listOfAll();
        usualByLettingBe();
        usualByTakingBack();
        fullByDraws();
        heard();
        heardIsPassed();
        heardIsUndone();
        crossHasNoBound();
        DUE.end();
    }

    // ---- THE TEXT

    private static void text() {
        BeansBox box = new BeansBox();
        String good = " ".repeat(233) + "b7 8 9;";
        for (int i = 0; i < 239; i++) {
            box.feed(good.charAt(i));
        }
        DUE.is("239 letters", box.told(5), 239);
        DUE.is("the 240th letter", box.feed(';'), 240);
        DUE.is("the 241st letter", box.feed('x'), F);
        DUE.is("the 241st letter", box.feed(0), F);
        DUE.is("the 241st letter, outside", box.feed(256), O);
        DUE.is("240 letters", box.told(5), 240);
        DUE.is("a letter too many is not in it", box.kitchen(), 0);
        DUE.is("no FAULT", box.fault(), -1);
        DUE.is("A", box.told(0), 7);
        DUE.is("S", box.told(1), 8);
        DUE.is("W", box.told(2), 9);
        DUE.is("empty again", box.told(5), 0);
        DUE.is("empty again", box.feed(255), 1);
    }

    private static void textOfAFault() {
        BeansBox box = new BeansBox();
        Due.feed(box, "b7 8 9" + " ".repeat(234));
        DUE.is("240 letters", box.told(5), 240);
        DUE.is("no ';' among them", box.feed(';'), F);
        DUE.is("cannot end there", box.kitchen(), -11);
        DUE.is("the end is at the text's length", box.fault(), 240);
        DUE.is("empty again, with a FAULT, too", box.feed('b'), 1);
    }

    // ---- WORDS and VOICES

    private static void wordsAndVoices() {
        BeansBox box = Due.box(EIGHT);
        int[] sounds = {0, 9, 90, 99, 900, 909, 990, 999};
        int[] shifts = {0, 1, 10, 100};
        DUE.is("eight WORDS", box.told(3), 8);
        DUE.is("four VOICES", box.told(4), 4);
        for (int w = 0; w < 8; w++) {
            DUE.is("SOUND of " + w, box.word(w, 0), sounds[w]);
            DUE.is("USUAL of " + w, box.word(w, 1), w);
            DUE.is("K of " + w, box.word(w, 2), w + 1);
            DUE.is("list of " + w, box.word(w, 3), 0);
        }
        for (int v = 0; v < 4; v++) {
            DUE.is("D of " + v, box.voice(v), shifts[v]);
        }
        DUE.is("no ninth", box.word(8, 0), U);
        DUE.is("no fifth", box.voice(4), U);
    }

    private static void ninthWord() {
        BeansBox box = Due.box(EIGHT);
        String before = Due.shown(box);
        DUE.is("a ninth 'w'", Due.tell(box, EIGHT + "w1 1 1;"), -13);
        DUE.is("at it", box.fault(), EIGHT.length());
        DUE.is("a ninth 'w' alone", Due.tell(box, EIGHT + " w"), -13);
        DUE.is("at it", box.fault(), EIGHT.length() + 1);
        DUE.is("what cannot stand in it is behind it", Due.tell(box, EIGHT + "wx"), -13);
        DUE.holds("all else is as it was", before.equals(Due.shown(box)));
    }

    private static void fifthVoice() {
        String four = "b0 0 0;v1;v2;v3;v4;";
        BeansBox box = Due.box(four);
        DUE.is("four VOICES", box.told(4), 4);
        DUE.is("a fifth 'v'", Due.tell(box, four + "v5;"), -13);
        DUE.is("at it", box.fault(), 19);
        DUE.is("a fifth 'v' alone", Due.tell(box, four + "v"), -13);
        DUE.is("WORDS may follow four VOICES", Due.tell(box, four + "w1 1 1;"), 1);
        DUE.is("a fifth 'v' behind a WORD", Due.tell(box, four + "w1 1 1;v5;"), -13);
        DUE.is("at it", box.fault(), 26);
    }

    private static void deedsOfEight() {
        BeansBox box = Due.box(EIGHT);
        DUE.is("hear the eighth", box.hear(999), 1);
        DUE.is("it is kept", box.told(8), 7);
        DUE.is("let be", box.letBe(), 8);
        DUE.is("hear the first", box.hear(0), 1);
        DUE.is("taken back for the eighth", box.takeBack(7), 10);
        DUE.is("call the eighth", box.call(7, 500), 22);
        DUE.is("drift", box.drift(60), box.told(7));
        DUE.is("deeds", box.told(12), 6);
        box.undo();
        DUE.is("undo of the drift: USUAL", box.word(7, 1), 10);
        DUE.is("undo of the drift: list", box.word(7, 3), 1);
        box.undo();
        DUE.is("undo of the call: SOUND", box.word(7, 0), 999);
        box.undo();
        DUE.is("undo of taking back: list", box.word(7, 3), 0);
        box.keep(1);
        box.call(7, 1);
        box.goBack(1);
        DUE.is("the IMAGE has the eighth", box.word(7, 0), 999);
        DUE.is("the IMAGE has the eighth", box.word(7, 1), 8);
    }

    private static void triedOfEight() {
        BeansBox box = Due.box("b0 0 0;" + "w0 5 1;".repeat(8) + "v0;v0;v0;v0;");
        DUE.is("eight that are like: the least", box.guess(0), 0);
        DUE.is("all but the first, by four", box.misheard(-1), 28);
        DUE.is("the first", box.misheard(0), 1);
        DUE.is("the last", box.misheard(27), 37);
        DUE.is("none behind it", box.misheard(28), -1);
        DUE.is("pairs", box.alike(0, -1), 28);
        DUE.is("the first pair", box.alike(0, 0), 1);
        DUE.is("the last pair", box.alike(0, 27), 67);
        DUE.is("no pair behind it", box.alike(0, 28), -1);
        DUE.is("who", box.who(0), 15);
        DUE.is("meant", box.meant(3, 0), 255);
        DUE.is("falsely", box.falsely(3, 0), 255);
        DUE.is("sure", box.sure(7, 0), 125000);
        DUE.is("needs", box.needs(7, 3, 0), 6);
        DUE.is("bestCalled: by 1 more it is nearer than the others", box.bestCalled(7, 0), 1);
        DUE.is("bestCalled: by all four", box.bestCalled(7, 1), 4);
        DUE.is("speaker", box.speaker(), 15);
    }

    // ---- SEEN, THE BOOK

    private static void seen() {
        BeansBox box = Due.box("b0 0 0;w100 9 0;w500 9 0;v0;v400;");
        for (int i = 1; i <= 6; i++) {
            DUE.is("SEEN", box.see(1, 1), i);
        }
        DUE.is("a seventh", box.see(0, 1), F);
        DUE.is("a seventh, no w", box.see(2, 0), U);
        DUE.is("a seventh, no g", box.see(0, 2), U);
        DUE.is("6 are SEEN", box.told(10), 6);
        DUE.is("the seventh is not among them", box.speaker(), 3);
        DUE.is("THE BOOK has room of its own", box.write(0, 0), 1);
        DUE.is("torn", box.tear(), 7);
        DUE.is("room again", box.see(0, 0), 1);
        for (int i = 2; i <= 6; i++) {
            DUE.is("SEEN", box.see(i == 6 ? 0 : 1, 1), i);
        }
        DUE.is("the sixth counts, too", box.speaker(), 0);
        DUE.is("a KITCHEN anew", Due.tell(box, "b0 0 0;w1 1 1;"), 1);
        DUE.is("room again", box.see(0, 0), 1);
    }

    private static void book() {
        BeansBox box = Due.box("b0 0 0;w100 9 0;w500 9 0;v0;");
        for (int i = 1; i <= 15; i++) {
            DUE.is("written", box.write(i % 2, 0), i);
        }
        DUE.is("a sixteenth", box.write(0, 1), F);
        DUE.is("a sixteenth, no WORD", box.write(2, 100), U);
        DUE.is("a sixteenth, too often", box.write(0, 100), O);
        DUE.is("15 entries", box.told(11), 15);
        DUE.is("the sixteenth is not among them", box.judge(), -1);
        DUE.is("SEEN have room of their own", box.see(0, 0), 1);
        DUE.is("torn", box.tear(), 16);
        for (int i = 1; i <= 15; i++) {
            DUE.is("written", box.write(0, i == 15 ? 1 : 0), i);
        }
        DUE.is("the fifteenth counts, too", box.judge(), 14);
        DUE.is("a KITCHEN anew", Due.tell(box, "b0 0 0;w1 1 1;"), 1);
        DUE.is("room again", box.write(0, 99), 1);
    }

    // ---- what can be undone

    /** 20 times the deed: all of them can be undone; 21 times: the first cannot. */
    private static void oldestLost(String name, Consumer<BeansBox> ahead, Consumer<BeansBox> deed) {
        for (int deeds = 19; deeds <= 22; deeds++) {
            BeansBox box = Due.box("b0 0 0;w0 0 99;w999 0 99;v0;v5;");
            ahead.accept(box);
            // IMAGES leave nothing to undo, and all else as it is
            box.keep(0);
            String[] shown = new String[deeds + 1];
            for (int i = 0; i <= deeds; i++) {
                shown[i] = counted(box);
                DUE.is(name + ": can be undone", box.told(12), Math.min(i, 20));
                if (i < deeds) {
                    deed.accept(box);
                }
            }
            int most = Math.min(deeds, 20);
            for (int i = 1; i <= most; i++) {
                DUE.is(name + ": undo", box.undo(), most - i);
                DUE.holds(name + ": as ahead of deed " + (deeds - i), shown[deeds - i].equals(counted(box)));
            }
            DUE.is(name + ": no more", box.undo(), N);
            DUE.holds(name + ": as ahead of the oldest", shown[deeds - most].equals(counted(box)));
        }
    }

    private static String counted(BeansBox box) {
        return box.told(6) + " " + box.told(7) + " " + box.told(8) + " " + box.word(0, 0) + " " + box.word(0, 1) + " "
                + box.word(0, 3) + " " + box.word(1, 1) + " " + box.word(1, 3);
    }

    private static void undoneOfEachKind() {
        oldestLost("hear", box -> { }, box -> box.hear(0));
        oldestLost("call", box -> { }, box -> box.call(0, box.word(0, 0) + 1));
        oldestLost("drift", box -> { }, box -> box.drift(2));
        oldestLost("hear and letBe", box -> { }, box -> {
            if (box.letBe() == N) {
                box.hear(0);
            }
        });
        oldestLost("hear and takeBack", box -> box.hear(0), box -> {
            if (box.takeBack(1) == N) {
                box.hear(0);
            }
        });
    }

    private static void refusedLosesNoOldest() {
        BeansBox box = Due.box("b0 0 0;w0 0 0;w999 0 0;v0;");
        for (int i = 1; i <= 20; i++) {
            box.call(0, i);
        }
        for (int i = 0; i < 5; i++) {
            box.hear(1000);
            box.takeBack(0);
            box.takeBack(2);
            box.letBe();
            box.call(0, 1000);
            box.call(2, 0);
            box.drift(61);
            box.keep(2);
            box.goBack(1);
        }
        DUE.is("refused deeds are no deeds", box.told(12), 20);
        for (int i = 19; i >= 0; i--) {
            DUE.is("undo", box.undo(), i);
            DUE.is("SOUND", box.word(0, 0), i);
        }
        DUE.is("none", box.undo(), N);
    }

    // ---- 99

    private static final String PLAIN = "b0 0 0;w0 50 0;w999 50 0;v0;";

    private static void listByHearing() {
        BeansBox box = Due.box(PLAIN);
        for (int i = 1; i <= 98; i++) {
            box.hear(0);
        }
        DUE.is("98 on THE LIST", box.word(0, 3), 98);
        box.hear(0);
        DUE.is("99 on THE LIST", box.word(0, 3), 99);
        DUE.is("it is done all the same", box.hear(0), 0);
        DUE.is("99 at most", box.word(0, 3), 99);
        DUE.is("all on THE LIST", box.told(9), 99);
        DUE.is("HEARD has no such bound", box.told(6), 100);
        box.write(0, 99);
        DUE.is("99 in THE BOOK is right", box.judge(), -1);
        box.undo();
        DUE.is("undo of what added nothing", box.word(0, 3), 99);
        box.undo();
        DUE.is("undo", box.word(0, 3), 98);
        DUE.is("99 in THE BOOK is wrong", box.judge(), 0);
    }

    private static void listByTakingBack() {
        BeansBox box = Due.box("b0 0 0;w0 50 0;w999 50 99;v0;");
        for (int i = 1; i <= 98; i++) {
            box.hear(0);
        }
        DUE.is("another is asked", box.hear(999), 1);
        box.takeBack(0);
        DUE.is("98 and once more", box.word(0, 3), 99);
        box.hear(999);
        box.takeBack(0);
        DUE.is("99 and once more: 99 at most", box.word(0, 3), 99);
        DUE.is("0 and once less: 0 at least", box.word(1, 3), 0);
        box.hear(0);
        box.takeBack(1);
        DUE.is("99 and once less", box.word(0, 3), 98);
        DUE.is("0 and once more", box.word(1, 3), 1);
        DUE.is("not done this time", box.hear(999), 1);
        box.takeBack(0);
        DUE.is("once less, whether it was done or not", box.word(1, 3), 0);
        DUE.is("98 and once more", box.word(0, 3), 99);
    }

    private static void listOfAll() {
        BeansBox box = Due.box("b0 0 0;" + "w0 0 0;w333 0 0;w666 0 0;w999 0 0;".repeat(2) + "v0;");
        for (int w = 0; w < 4; w++) {
            box.call(w + 4, 111 * (3 * w + 1) % 1000);
        }
        for (int i = 0; i < 120; i++) {
            box.drift(60);
        }
        int all = 0;
        for (int w = 0; w < 8; w++) {
            DUE.holds("99 at most of " + w, box.word(w, 3) <= 99);
            all += box.word(w, 3);
        }
        DUE.is("all on THE LIST are of all WORDS", box.told(9), all);
        DUE.holds("and may be more than 99", all > 99);
    }

    private static void usualByLettingBe() {
        BeansBox box = Due.box("b0 0 0;w0 97 0;w999 0 0;");
        int[] want = {98, 99, 99, 99};
        for (int usual : want) {
            box.hear(0);
            DUE.is("let be", box.letBe(), usual);
            DUE.is("USUAL", box.word(0, 1), usual);
        }
        DUE.is("what added nothing is a deed", box.undo(), 7);
        DUE.is("and kept again", box.told(8), 0);
    }

    private static void usualByTakingBack() {
        int[] ahead = {0, 96, 97, 98, 99};
        int[] want = {2, 98, 99, 99, 99};
        for (int i = 0; i < ahead.length; i++) {
            BeansBox box = Due.box("b0 0 0;w0 99 0;w999 " + ahead[i] + " 0;");
            box.hear(0);
            DUE.is("USUAL " + ahead[i] + " and 2", box.takeBack(1), want[i]);
            DUE.is("USUAL", box.word(1, 1), want[i]);
            DUE.is("USUAL 99 less 1", box.word(0, 1), 98);
        }
        int[] less = {0, 0, 1};
        for (int usual = 0; usual <= 2; usual++) {
            BeansBox box = Due.box("b0 0 0;w0 " + usual + " 0;w999 0 0;");
            box.hear(0);
            box.takeBack(1);
            DUE.is("USUAL " + usual + " less 1: 0 at least", box.word(0, 1), less[usual]);
        }
    }

    private static void fullByDraws() {
        BeansBox box = Due.box("b0 0 0;w7 90 0;v0;");
        DUE.is("one WORD: all is LET BE", box.drift(60), 0);
        DUE.is("USUAL 99 at most", box.word(0, 1), 99);
        DUE.is("60 on THE LIST", box.word(0, 3), 60);
        box.drift(60);
        DUE.is("99 on THE LIST at most", box.word(0, 3), 99);
        DUE.is("120 HEARD", box.told(6), 120);
    }

    // ---- HEARD

    /** 9000 and so many more (or less). */
    private static BeansBox heardOf(int more) {
        BeansBox box = Due.box("b0 0 0;w0 0 0;v0;");
        for (int i = 0; i < 149; i++) {
            box.drift(60);
        }
        box.drift(Math.min(60, 60 + more));
        for (int i = 0; i < more; i++) {
            box.hear(0);
        }
        return box;
    }

    private static void heard() {
        BeansBox box = heardOf(-1);
        DUE.is("HEARD", box.told(6), 8999);
        DUE.is("hear at 8999", box.hear(0), 0);
        DUE.is("hear at 9000", box.hear(0), 0);
        DUE.is("hear at 9001", box.hear(0), F);
        DUE.is("hear at 9001, outside", box.hear(-1), O);
        DUE.is("drift at 9001", box.drift(1), F);
        DUE.is("drift at 9001, outside", box.drift(0), O);
        DUE.is("HEARD", box.told(6), 9001);
        DUE.is("what is tried is not full", box.rule(0), 0);
        DUE.is("call is not full", box.call(0, 1), 1);
        DUE.is("letBe is not full", box.letBe(), 99);
    }

    private static void heardIsPassed() {
        BeansBox below = heardOf(-20);
        DUE.is("HEARD", below.told(6), 8980);
        DUE.is("drift(60) at 8980", below.drift(60), 0);
        DUE.is("passes it", below.told(6), 9040);
        DUE.is("drift above", below.drift(1), F);
        DUE.is("hear above", below.hear(0), F);
        BeansBox at = heardOf(0);
        DUE.is("drift(60) at 9000", at.drift(60), 0);
        DUE.is("passes it", at.told(6), 9060);
        DUE.is("drift above", at.drift(1), F);
        BeansBox above = heardOf(1);
        DUE.is("drift(1) at 9001", above.drift(1), F);
        DUE.is("nothing more HEARD", above.told(6), 9001);
    }

    private static void heardIsUndone() {
        BeansBox box = heardOf(0);
        box.keep(0);
        box.drift(60);
        DUE.is("hear above", box.hear(0), F);
        box.undo();
        DUE.is("undone: hear at 9000", box.hear(0), 0);
        DUE.is("hear above", box.hear(0), F);
        box.goBack(0);
        DUE.is("gone back: drift at 9000", box.drift(1), 0);
        DUE.is("drift above", box.drift(1), F);
        Due.tell(box, "b0 0 0;w0 0 0;v0;");
        DUE.is("a KITCHEN anew", box.drift(60), 0);
        DUE.is("HEARD", box.told(6), 60);
    }

    private static void crossHasNoBound() {
        // of two that are like each is SURE by a half: to do it costs 49
        BeansBox box = Due.box("b1 2 0;w0 50 99;w0 50 99;v0;");
        DUE.is("asked each time", box.drift(60), 60);
        DUE.is("asked each time", box.drift(60), 120);
        DUE.is("CROSS", box.told(7), 120);
        DUE.is("asks, the first time for 121", box.asks(120), 0);
        DUE.is("asks, the first time for 121", box.asks(121), 1);
        DUE.is("asks, the second for 122", box.asks(242), 1);
        DUE.is("asks, the second for 122", box.asks(243), 2);
        for (int i = 3; i <= 150; i++) {
            box.drift(60);
        }
        DUE.is("HEARD", box.told(6), 9000);
        DUE.holds("CROSS grows with it", box.told(7) > 999 && box.told(7) <= 9000);
    }
}
