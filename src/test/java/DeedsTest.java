/** Promises 8 to 13: hear, takeBack, letBe, call, drift, undo. */
public final class DeedsTest {
    private static final int U = BeansBox.UNKNOWN, O = BeansBox.OUTSIDE, N = BeansBox.NOT, F = BeansBox.FULL;
    private static final Due DUE = new Due("DeedsTest");

    /** At 500 the second WORD is SURE by 308 of 572: to do it costs 45. */
    private static final String WORDS = "w100 10 0;w500 10 99;";

    public static void main(String[] args) {
        hearActs();
        hearTies();
        hearKeeps();
        hearRefuses();
        hearFull();
        listIsFull();
        takeBack();
        takeBackAtBounds();
        takeBackRefuses();
        letBe();
        call();
        driftIsHearingByDraws();
        driftEdges();
        undo();
        undoForgetsTheOldest();
        undoOfDrift();
        DUE.end();
    }

    private static void state(BeansBox box, String when, int... want) {
        int at = 0;
        for (int w = 0; w < box.told(3); w++) {
            DUE.is(when + ": USUAL of " + w, box.word(w, 1), want[at++]);
            DUE.is(when + ": list of " + w, box.word(w, 3), want[at++]);
        }
        DUE.is(when + ": HEARD", box.told(6), want[at++]);
        DUE.is(when + ": CROSS", box.told(7), want[at++]);
        DUE.is(when + ": kept", box.told(8), want[at]);
    }

    private static void hearActs() {
        BeansBox box = Due.box("b1 2 0;" + WORDS);
        DUE.is("hear: done", box.hear(100), 0);
        state(box, "done", 10, 1, 10, 0, 1, 0, 0);
        DUE.is("hear: asked", box.hear(500), 1);
        state(box, "asked", 10, 1, 10, 0, 2, 1, 1);
        DUE.is("hear: done again", box.hear(0), 0);
        state(box, "done again", 10, 2, 10, 0, 3, 1, 0);
        BeansBox mute = Due.box("b2 1 0;" + WORDS);
        DUE.is("hear: silence", mute.hear(500), 2);
        state(mute, "silence", 10, 0, 10, 0, 1, 0, 1);
        DUE.is("hear: silence", mute.hear(999), 2);
        state(mute, "silence", 10, 0, 10, 0, 2, 0, 1);
    }

    private static void hearTies() {
        DUE.is("do and ask alike", Due.box("b45 99 0;" + WORDS).hear(500), 0);
        DUE.is("ask is less", Due.box("b44 99 0;" + WORDS).hear(500), 1);
        DUE.is("do and silence alike", Due.box("b99 45 0;" + WORDS).hear(500), 0);
        DUE.is("silence is less", Due.box("b99 44 0;" + WORDS).hear(500), 2);
        DUE.is("ask and silence alike", Due.box("b1 1 0;" + WORDS).hear(500), 1);
        DUE.is("all alike", Due.box("b45 45 0;" + WORDS).hear(500), 0);
        DUE.is("one WORD is SURE", Due.box("b0 0 0;w0 0 99;").hear(999), 0);
        DUE.is("like WEIGHTS: the least WORD", Due.box("b0 0 0;w7 3 0;w7 3 0;").hear(7), 0);
    }

    private static void hearKeeps() {
        BeansBox box = Due.box("b1 2 0;" + WORDS);
        box.hear(100);
        box.hear(500);
        DUE.is("only the latest is kept", box.letBe(), 11);
        state(box, "let be", 10, 1, 11, 0, 2, 1, -1);
        DUE.is("none is kept then", box.letBe(), N);
        DUE.is("none is kept then", box.takeBack(0), N);
        box.call(0, 999);
        box.hear(100);
        box.call(0, 100);
        DUE.is("call leaves what is kept", box.told(8), 1);
        DUE.is("a kept GUESS is not guessed anew", box.letBe(), 12);
    }

    private static void hearRefuses() {
        BeansBox box = Due.box("b1 2 0;" + WORDS + "v0;");
        box.hear(100);
        String before = Due.shownWithSeed(box);
        for (int sound : new int[] {-1, 1000, Integer.MAX_VALUE, Integer.MIN_VALUE}) {
            DUE.is("hear(" + sound + ")", box.hear(sound), O);
        }
        DUE.holds("what is refused changes nothing", before.equals(Due.shownWithSeed(box)));
        DUE.is("hear(0)", box.hear(0), 0);
        DUE.is("hear(999)", box.hear(999), 1);
        BeansBox none = Due.box("b1 2 0;v0;");
        DUE.is("no WORDS", none.hear(0), N);
        DUE.is("no WORDS, outside", none.hear(1000), O);
        DUE.is("nothing to undo by a refusal", none.undo(), N);
    }

    private static void hearFull() {
        BeansBox box = Due.box("b0 0 0;w0 0 0;v0;");
        for (int i = 0; i < 150; i++) {
            DUE.is("drift to 9000", box.drift(60), 0);
        }
        DUE.is("HEARD", box.told(6), 9000);
        DUE.is("hear at 9000", box.hear(0), 0);
        DUE.is("HEARD", box.told(6), 9001);
        DUE.is("hear above 9000", box.hear(0), F);
        DUE.is("hear above 9000, outside", box.hear(1000), O);
        DUE.is("drift above 9000", box.drift(1), F);
        DUE.is("drift above 9000, outside", box.drift(61), O);
        DUE.is("HEARD stays", box.told(6), 9001);
        DUE.is("kept stays", box.told(8), 0);
        DUE.is("letBe above 9000", box.letBe(), 99);
        DUE.is("undo", box.undo(), 19);
        DUE.is("undo", box.undo(), 18);
        DUE.is("drift at 9000", box.drift(60), 0);
        DUE.is("drift may pass it", box.told(6), 9060);
        DUE.is("drift above 9000", box.drift(60), F);
        DUE.is("kitchen anew", Due.tell(box, "b0 0 0;w0 0 0;v0;"), 1);
        DUE.is("hear anew", box.hear(0), 0);
    }

    private static void listIsFull() {
        BeansBox box = Due.box("b0 0 0;w0 50 0;w999 50 0;");
        for (int i = 1; i <= 105; i++) {
            box.hear(0);
            DUE.is("list of 0", box.word(0, 3), Math.min(i, 99));
        }
        box.hear(999);
        DUE.is("all on THE LIST", box.told(9), 100);
        DUE.is("taken back for a full one", box.takeBack(0), 52);
        DUE.is("list of 0 stays full", box.word(0, 3), 99);
        DUE.is("list of 1", box.word(1, 3), 0);
        box.hear(0);
        DUE.is("taken back from a full one", box.takeBack(1), 51);
        DUE.is("list of 0", box.word(0, 3), 98);
    }

    private static void takeBack() {
        BeansBox box = Due.box("b1 2 0;" + WORDS);
        box.hear(100);
        DUE.is("taken back", box.takeBack(1), 12);
        state(box, "taken back", 9, 0, 12, 1, 1, 0, -1);
        DUE.is("once only", box.takeBack(1), N);
        DUE.is("once only", box.letBe(), N);
        // asked: it was not done, and is once less on THE LIST all the same
        DUE.is("asked", box.hear(500), 1);
        DUE.is("taken back", box.takeBack(0), 11);
        state(box, "taken back when asked", 11, 1, 11, 0, 2, 1, -1);
        BeansBox mute = Due.box("b2 1 0;" + WORDS);
        DUE.is("silence", mute.hear(500), 2);
        DUE.is("taken back", mute.takeBack(0), 12);
        state(mute, "taken back when silent", 12, 1, 9, 0, 1, 0, -1);
    }

    private static void takeBackAtBounds() {
        BeansBox box = Due.box("b1 1 0;w100 0 0;w500 98 99;w900 97 0;");
        box.call(1, 100);
        DUE.is("asked", box.hear(100), 1);
        DUE.is("kept", box.told(8), 1);
        DUE.is("USUAL 97 and 2", box.takeBack(2), 99);
        state(box, "97 and 2", 0, 0, 97, 0, 99, 1, 1, 1, -1);
        box.hear(100);
        DUE.is("USUAL 99 and 2", box.takeBack(2), 99);
        BeansBox low = Due.box("b1 1 0;w100 0 0;w500 0 0;");
        low.hear(100);
        DUE.is("taken back", low.takeBack(1), 2);
        state(low, "USUAL 0 less", 0, 0, 2, 1, 1, 0, -1);
        BeansBox near = Due.box("b1 1 0;w100 98 0;w500 98 0;");
        near.hear(100);
        DUE.is("USUAL 98 and 2", near.takeBack(1), 99);
    }

    private static void takeBackRefuses() {
        BeansBox box = Due.box("b1 2 0;" + WORDS);
        DUE.is("none is kept", box.takeBack(0), N);
        DUE.is("none is kept, no word", box.takeBack(2), U);
        box.hear(100);
        String before = Due.shownWithSeed(box);
        DUE.is("it was that one", box.takeBack(0), N);
        for (int w : new int[] {2, -1, 8, Integer.MAX_VALUE, Integer.MIN_VALUE}) {
            DUE.is("takeBack(" + w + ")", box.takeBack(w), U);
        }
        DUE.holds("what is refused changes nothing", before.equals(Due.shownWithSeed(box)));
    }

    private static void letBe() {
        BeansBox box = Due.box("b2 1 0;w100 98 0;w500 10 99;");
        DUE.is("none is kept", box.letBe(), N);
        DUE.is("what can be undone", box.told(12), 0);
        box.hear(100);
        DUE.is("let be", box.letBe(), 99);
        state(box, "let be", 99, 1, 10, 0, 1, 0, -1);
        DUE.is("once only", box.letBe(), N);
        box.hear(100);
        DUE.is("99 at most", box.letBe(), 99);
        state(box, "let be", 99, 2, 10, 0, 2, 0, -1);
        box.call(0, 999);
        DUE.is("silence", Due.box("b2 1 0;w100 10 0;w500 10 99;").hear(500), 2);
        BeansBox mute = Due.box("b2 1 0;" + WORDS);
        mute.hear(500);
        DUE.is("let be when silent", mute.letBe(), 11);
        state(mute, "let be when silent", 10, 0, 11, 0, 1, 0, -1);
    }

    private static void call() {
        BeansBox box = Due.box("b0 0 0;w345 1 0;w0 1 0;");
        DUE.is("call", box.call(0, 999), 15);
        DUE.is("SOUND", box.word(0, 0), 999);
        DUE.is("call back", box.call(0, 345), 15);
        DUE.is("its own", box.call(0, 345), 0);
        DUE.is("its own is a deed, too", box.told(12), 3);
        DUE.is("each PART by itself", box.call(0, 354), 2);
        DUE.is("no turning over", box.call(1, 900), 9);
        DUE.is("no turning over", box.call(1, 999), 18);
        DUE.is("farthest", box.call(1, 0), 27);
        DUE.is("a SOUND of another", box.call(1, 354), 12);
        DUE.is("HEARD stays", box.told(6), 0);
        String before = Due.shownWithSeed(box);
        DUE.is("call(2, 0)", box.call(2, 0), U);
        DUE.is("call(-1, -1)", box.call(-1, -1), U);
        DUE.is("call far", box.call(Integer.MAX_VALUE, 5), U);
        DUE.is("call far", box.call(Integer.MIN_VALUE, 5), U);
        DUE.is("call(0, 1000)", box.call(0, 1000), O);
        DUE.is("call(0, -1)", box.call(0, -1), O);
        DUE.is("call far", box.call(0, Integer.MIN_VALUE), O);
        DUE.is("call far", box.call(0, Integer.MAX_VALUE), O);
        DUE.holds("what is refused changes nothing", before.equals(Due.shownWithSeed(box)));
        box.hear(354);
        DUE.is("like SOUNDS: the least WORD", box.told(8), 0);
    }

    private static long seed;

    private static int draw(int n) {
        seed = (seed * 1103515245L + 12345L) & 0x7fffffffL;
        return (int) (seed / 65536L % n);
    }

    /** A drift is what hear, takeBack and letBe make of the same draws. */
    private static void driftIsHearingByDraws() {
        String text = "b3 4 0;w100 10 5;w500 3 40;w920 20 9;w111 1 1;v0;v400;v19;";
        for (int start = 0; start < 60; start++) {
            int first = start * 35791394;
            int n = 1 + start % 60;
            BeansBox drifted = Due.box(text);
            drifted.seed(first);
            BeansBox heard = Due.box(text);
            seed = first;
            for (int i = 0; i < n; i++) {
                int v = draw(3);
                int w = draw(4);
                heard.hear(heard.said(w, v));
                if (draw(3) != 0 || heard.told(8) == w) {
                    heard.letBe();
                } else {
                    heard.takeBack(w);
                }
            }
            DUE.is("drift answers CROSS", drifted.drift(n), heard.told(7));
            for (int what = 6; what <= 9; what++) {
                DUE.is("drift of " + n + " from " + first + ": told(" + what + ")", drifted.told(what), heard.told(what));
            }
            for (int w = 0; w < 4; w++) {
                DUE.is("USUAL by draws", drifted.word(w, 1), heard.word(w, 1));
                DUE.is("list by draws", drifted.word(w, 3), heard.word(w, 3));
            }
            DUE.is("one deed", drifted.told(12), 1);
            DUE.is("THE SEED by draws", drifted.seed(0), seed);
        }
    }

    private static void driftEdges() {
        BeansBox box = Due.box("b0 0 0;w0 0 0;v0;");
        String before = Due.shownWithSeed(box);
        for (int n : new int[] {0, 61, -1, Integer.MAX_VALUE, Integer.MIN_VALUE}) {
            DUE.is("drift(" + n + ")", box.drift(n), O);
            DUE.is("drift(" + n + ") without KITCHEN", new BeansBox().drift(n), O);
        }
        DUE.holds("what is refused changes nothing", before.equals(Due.shownWithSeed(box)));
        DUE.is("drift(60)", box.drift(60), 0);
        DUE.is("HEARD", box.told(6), 60);
        DUE.is("LET BE each time", box.word(0, 1), 60);
        DUE.is("done each time", box.word(0, 3), 60);
        DUE.is("drift(1)", box.drift(1), 0);
        DUE.is("HEARD", box.told(6), 61);
        BeansBox mute = Due.box("b1 2 0;" + WORDS);
        mute.seed(5);
        mute.hear(500);
        DUE.is("no VOICES: nothing", mute.drift(9), 1);
        DUE.is("no VOICES: nothing HEARD", mute.told(6), 1);
        DUE.is("no VOICES: kept stays", mute.told(8), 1);
        DUE.is("no VOICES: a deed", mute.told(12), 2);
        DUE.is("no VOICES: no draws", mute.seed(0), 5);
        BeansBox wordless = Due.box("b1 2 0;v0;");
        wordless.seed(5);
        DUE.is("no WORDS: nothing", wordless.drift(9), 0);
        DUE.is("no WORDS: nothing HEARD", wordless.told(6), 0);
        DUE.is("no WORDS: a deed", wordless.undo(), 0);
        DUE.is("no WORDS: no draws", wordless.seed(0), 5);
    }

    private static void undo() {
        BeansBox box = Due.box("b1 2 0;" + WORDS + "v0;");
        DUE.is("none", box.undo(), N);
        String[] shown = new String[7];
        shown[0] = Due.shown(box);
        box.hear(100);
        shown[1] = Due.shown(box);
        box.takeBack(1);
        shown[2] = Due.shown(box);
        box.hear(500);
        shown[3] = Due.shown(box);
        box.letBe();
        shown[4] = Due.shown(box);
        box.call(0, 777);
        shown[5] = Due.shown(box);
        box.drift(20);
        shown[6] = Due.shown(box);
        for (int i = 5; i >= 0; i--) {
            DUE.is("undo", box.undo(), i);
            DUE.holds("as it was ahead of deed " + i, shown[i].equals(Due.shown(box)));
        }
        DUE.is("no more", box.undo(), N);
        box.hear(100);
        DUE.is("behind an undo", box.undo(), 0);
        // what is no deed is not undone
        box.see(0, 0);
        box.write(0, 0);
        box.seed(9);
        box.hear(-1);
        box.takeBack(0);
        box.letBe();
        box.call(0, 1000);
        box.drift(0);
        box.guess(100);
        box.bestCalled(0, 0);
        box.needs(0, 0, 1);
        DUE.is("no deeds", box.undo(), N);
        box.hear(100);
        box.see(0, 0);
        box.write(1, 1);
        DUE.is("undo of hear", box.undo(), 0);
        DUE.is("SEEN stays", box.told(10), 2);
        DUE.is("THE BOOK stays", box.told(11), 2);
        DUE.is("THE SEED stays", box.seed(0), 9);
    }

    private static void undoForgetsTheOldest() {
        for (int deeds : new int[] {19, 20, 21, 25, 45}) {
            BeansBox box = Due.box("b0 0 0;w0 0 0;");
            for (int i = 1; i <= deeds; i++) {
                box.call(0, i);
                DUE.is("can be undone", box.told(12), Math.min(i, 20));
            }
            int most = Math.min(deeds, 20);
            for (int i = 1; i <= most; i++) {
                DUE.is("undo " + i + " of " + deeds, box.undo(), most - i);
                DUE.is("SOUND then", box.word(0, 0), deeds - i);
            }
            DUE.is("the oldest are lost", box.undo(), N);
            DUE.is("SOUND then", box.word(0, 0), deeds - most);
        }
        BeansBox box = Due.box("b0 0 0;w0 0 0;");
        for (int i = 1; i <= 30; i++) {
            box.call(0, i);
        }
        box.undo();
        box.undo();
        box.call(0, 500);
        DUE.is("undo", box.undo(), 18);
        DUE.is("SOUND then", box.word(0, 0), 28);
        DUE.is("undo", box.undo(), 17);
        DUE.is("SOUND then", box.word(0, 0), 27);
    }

    private static void undoOfDrift() {
        BeansBox box = Due.box("b1 2 0;" + WORDS + "v0;v5;");
        box.seed(42);
        box.hear(500);
        String before = Due.shown(box);
        box.drift(33);
        int drawn = box.seed(0);
        box.seed(drawn);
        DUE.is("undo of all of a drift", box.undo(), 1);
        DUE.is("HEARD", box.told(6), 1);
        DUE.is("kept again", box.told(8), 1);
        DUE.is("THE SEED stays", box.seed(0), drawn);
        DUE.holds("as it was", before.equals(Due.shown(box)));
    }
}
