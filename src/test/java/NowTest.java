import java.util.Random;

/**
 * What is tried is answered by SOUNDS and USUAL as they are now, not as they were told: behind CALLED, LET BE, TAKEN BACK,
 * BY DRAWS, and again as they were behind UNDONE and an IMAGE.
 */
public final class NowTest {
    private static final int NONE = BeansBox.NONE;
    private static final String TOLD = "b5 7 0;w100 9 10;w109 9 50;v0;v9;";
    private static final Due DUE = new Due("NowTest");

    public static void main(String[] args) {
        asTold("told", Due.box(TOLD));
        asItIsNow("done", done());
        undone();
        imaged();
        heardNow();
        everyWayThere();
        DUE.end();
    }

    /** Behind it WORD 0 is 100 and USUAL 11, WORD 1 is 105 and USUAL 8: WEIGHTS of 12 and 9 times 28 less APART. */
    private static BeansBox done() {
        BeansBox box = Due.box(TOLD);
        DUE.is("asked", box.hear(109), 1);
        DUE.is("taken back", box.takeBack(0), 11);
        DUE.is("called", box.call(1, 105), 4);
        return box;
    }

    private static void asTold(String when, BeansBox box) {
        DUE.is(when + ": sure", box.sure(0, 100), 595744);
        DUE.is(when + ": rule", box.rule(109), 1);
        DUE.is(when + ": worth", box.worth(109, 0), 20);
        DUE.is(when + ": said", box.said(1, 1), 108);
        // by 9: 100 is 109, guessed as WORD 1; 109 is 108, guessed right
        DUE.is(when + ": misheard, how many", box.misheard(NONE), 1);
        DUE.is(when + ": misheard", box.misheard(0), 10);
        DUE.is(when + ": meant", box.meant(1, 108), 2);
        DUE.is(when + ": who", box.who(108), 2);
        DUE.is(when + ": alike", box.alike(8, NONE), 0);
        DUE.is(when + ": wake", box.wake(0), 994);
        DUE.is(when + ": falsely", box.falsely(1, 9), 2);
        DUE.is(when + ": needs", box.needs(0, 0, 0), 6);
        DUE.is(when + ": bestCalled, its own", box.bestCalled(1, 0), 109);
        DUE.is(when + ": sayNext", box.sayNext(), 0);
        DUE.is(when + ": asks", box.asks(5), 1);
    }

    private static void asItIsNow(String when, BeansBox box) {
        // at 100: 336 and 207
        DUE.is(when + ": sure", box.sure(0, 100), 618784);
        DUE.is(when + ": sure", box.sure(1, 100), 381215);
        // at 109: 228 and 216; by SOUND or USUAL as told it would be WORD 1, and asked
        DUE.is(when + ": guess", box.guess(109), 0);
        DUE.is(when + ": rule", box.rule(109), 0);
        DUE.is(when + ": worth", box.worth(109, 0), 4);
        DUE.is(when + ": said", box.said(1, 1), 104);
        // at 105: 276 and 252; at 104: 288 and 243
        DUE.is(when + ": misheard, how many", box.misheard(NONE), 2);
        DUE.is(when + ": misheard", box.misheard(0), 1);
        DUE.is(when + ": misheard", box.misheard(1), 11);
        DUE.is(when + ": meant", box.meant(1, 104), 2);
        DUE.is(when + ": meant", box.meant(1, 108), 0);
        DUE.is(when + ": who", box.who(104), 2);
        DUE.is(when + ": who", box.who(108), 0);
        DUE.is(when + ": alike", box.alike(5, 0), 1);
        DUE.is(when + ": alike", box.alike(4, NONE), 0);
        DUE.is(when + ": wake", box.wake(0), 999);
        DUE.is(when + ": wake", box.wake(1), 21);
        DUE.is(when + ": falsely", box.falsely(1, 5), 2);
        DUE.is(when + ": falsely", box.falsely(1, 4), 0);
        needsNow(when, box);
        bestCalledNow(when, box);
        DUE.is(when + ": none parts them", box.sayNext(), NONE);
        DUE.is(when + ": asks for CROSS and A", box.asks(5), 0);
        DUE.is(when + ": asks for CROSS and A", box.asks(6), 1);
    }

    /** All others as they are now. */
    private static void needsNow(String when, BeansBox box) {
        DUE.is(when + ": 28 times 8 is not less than 207", box.needs(0, 0, 0), 7);
        DUE.is(when + ": 28 times 10 is more than 276", box.needs(1, 0, 0), 9);
        DUE.is(when + ": 28 times 8, and done for 4", box.needs(0, 0, 1), 7);
        // 2044 of 2320 is SURE by 881034: of K 50 that costs 5; 2016 of 2292 by 879581: 6
        DUE.is(when + ": 28 times 73", box.needs(1, 0, 1), 72);
    }

    /** 8 is said 8 and 7: 252 and 243 are more than 228 and 240. It is 4 APART from 105, and 3 are too few. */
    private static void bestCalledNow(String when, BeansBox box) {
        DUE.is(when + ": bestCalled", box.bestCalled(1, 0), 8);
        DUE.is(when + ": bestCalled, VOICES", box.bestCalled(1, 1), 2);
        DUE.is(when + ": its own", box.bestCalled(0, 0), 100);
        DUE.is(when + ": its own, VOICES", box.bestCalled(0, 1), 2);
    }

    private static void undone() {
        BeansBox box = done();
        for (int i = 2; i >= 0; i--) {
            DUE.is("undo", box.undo(), i);
        }
        asTold("undone", box);
    }

    private static void imaged() {
        BeansBox box = Due.box(TOLD);
        box.keep(0);
        box.hear(109);
        box.takeBack(0);
        box.call(1, 105);
        box.keep(1);
        box.goBack(0);
        asTold("gone back to what was told", box);
        box.goBack(1);
        asItIsNow("gone back to what was done", box);
        Due.tell(box, TOLD);
        asTold("told anew", box);
    }

    /** What is done is done by what is so now, too. */
    private static void heardNow() {
        BeansBox box = done();
        DUE.is("it does it now", box.hear(109), 0);
        DUE.is("WORD 0", box.told(8), 0);
        DUE.is("LET BE from what is so now", box.letBe(), 12);
        DUE.is("CALLED from what is so now", box.call(1, 109), 4);
        DUE.is("LET BE weighs: 247 and 252 at 109", box.guess(109), 1);
        DUE.is("LET BE weighs: 260 and 243 at 108", box.guess(108), 0);
        BeansBox seen = done();
        seen.see(1, 0);
        DUE.is("WORD 1 is taken for WORD 0 by all", seen.speaker(), 3);
        seen.undo();
        DUE.is("109 is not", seen.speaker(), 0);
    }

    // ---- a box that has come to be so answers as one that was told so

    private static void everyWayThere() {
        for (int run = 0; run < 300; run++) {
            Random random = new Random(run);
            BeansBox box = Due.box(text(random));
            box.seed(random.nextInt(1000000));
            for (int i = 0; i < 30; i++) {
                deed(box, random);
            }
            BeansBox told = Due.box(textOf(box));
            DUE.holds("run " + run + ": " + textOf(box) + " is answered as if it were told so", tried(box).equals(tried(told)));
        }
    }

    private static String text(Random random) {
        StringBuilder all = new StringBuilder("b" + random.nextInt(30) + " " + random.nextInt(30) + " 55;");
        for (int w = random.nextInt(3) + 1; w >= 0; w--) {
            all.append('w').append(random.nextInt(1000)).append(' ').append(random.nextInt(5)).append(" 99;");
        }
        return all + "v0;v" + random.nextInt(1000) + ";";
    }

    private static void deed(BeansBox box, Random random) {
        int w = random.nextInt(box.told(3));
        switch (random.nextInt(7)) {
            case 0 -> box.drift(random.nextInt(9) + 1);
            case 1 -> box.call(w, random.nextInt(1000));
            case 2 -> box.undo();
            case 3 -> box.letBe();
            case 4 -> box.takeBack(w);
            default -> box.hear(random.nextInt(1000));
        }
    }

    private static String textOf(BeansBox box) {
        StringBuilder all = new StringBuilder("b" + box.told(0) + " " + box.told(1) + " " + box.told(2) + ";");
        for (int w = 0; w < box.told(3); w++) {
            all.append('w').append(box.word(w, 0)).append(' ').append(box.word(w, 1)).append(' ').append(box.word(w, 2)).append(';');
        }
        for (int v = 0; v < box.told(4); v++) {
            all.append('v').append(box.voice(v)).append(';');
        }
        return all.toString();
    }

    /** All that is tried but asks, which counts CROSS, too: some 170 calls. */
    private static String tried(BeansBox box) {
        StringBuilder all = new StringBuilder();
        for (int sound = 0; sound < 1000; sound += 111) {
            all.append(box.guess(sound)).append(' ').append(box.sure(1, sound)).append(' ').append(box.rule(sound)).append(' ');
            all.append(box.worth(sound, 0)).append(' ').append(box.who(sound)).append(' ').append(box.meant(1, sound)).append(' ');
        }
        for (int w = 0; w < 4; w++) {
            for (int k = 0; k < 2; k++) {
                all.append(box.said(w, k)).append(' ').append(box.needs(w, k, 0)).append(' ').append(box.needs(w, k, 1)).append(' ');
                all.append(box.bestCalled(w, k)).append(' ').append(box.who(box.said(w, k))).append(' ');
            }
        }
        for (int i = -1; i < 8; i++) {
            all.append(box.misheard(i)).append(' ').append(box.alike(9, i)).append(' ').append(box.falsely(1, 2 * i + 2)).append(' ');
        }
        all.append(box.wake(0)).append(' ').append(box.wake(1)).append(' ').append(box.sayNext()).append(' ');
        box.see(0, box.guess(box.said(0, 1)));
        return all.append(box.speaker()).append(' ').append(box.sayNext()).toString();
    }
}
