/** What is left over: PARTS by 10, THE SEED by 2 to the 31, a DRAW by n; and what is not: APART. */
public final class WrapTest {
    private static final Due DUE = new Due("WrapTest");
    /** How often a DRAW of 3 was 0 or not (2, 0), the GUESS another WORD or not (1, 0). */
    private static final int[] CASES = new int[4];

    public static void main(String[] args) {
        parts();
        everyPart();
        shiftedInAllThatIsSaid();
        apartIsNotLeftOver();
        seed();
        seedThroughCalls();
        draws();
        drawsOfOne();
        drawOfThree();
        DUE.end();
    }

    // ---- PARTS

    private static void parts() {
        int[][] all = {{0, 0, 0}, {999, 1, 990}, {999, 10, 909}, {999, 100, 99}, {999, 111, 0}, {999, 999, 888},
            {900, 100, 0}, {90, 10, 0}, {9, 1, 0}, {9, 9, 8}, {890, 110, 900}, {899, 101, 990}, {5, 5, 0}, {50, 50, 0},
            {500, 500, 0}, {549, 451, 990}, {123, 987, 0}, {1, 998, 999}};
        for (int[] its : all) {
            BeansBox box = Due.box("b0 0 0;w" + its[0] + " 0 0;v" + its[1] + ";");
            DUE.is(its[0] + " SHIFTED by " + its[1], box.said(0, 0), its[2]);
        }
    }

    private static void everyPart() {
        String figures = "0123456789012345678";
        String[] shifts = {"999", "111", "905", "050"};
        BeansBox box = new BeansBox();
        for (int sound = 0; sound < 1000; sound++) {
            if (sound % 80 == 0) {
                box = Due.box("b0 0 0;w0 0 0;v999;v111;v905;v050;");
            }
            box.call(0, sound);
            String its = String.format("%03d", sound);
            for (int v = 0; v < 4; v++) {
                int want = 0;
                for (int k = 0; k < 3; k++) {
                    want = 10 * want + figures.charAt(its.charAt(k) - '0' + shifts[v].charAt(k) - '0') - '0';
                }
                DUE.is(sound + " SHIFTED by " + shifts[v], box.said(0, v), want);
            }
        }
    }

    private static void shiftedInAllThatIsSaid() {
        // 909 by 101 and 9 by 1 are said 0; 9 by 101 is said 100, 909 by 1 is said 900
        BeansBox box = Due.box("b0 0 0;w909 9 0;w9 9 0;w100 0 0;v101;v1;");
        DUE.is("who", box.who(0), 3);
        DUE.is("who", box.who(100), 1);
        DUE.is("who", box.who(900), 2);
        DUE.is("meant", box.meant(0, 0), 1);
        DUE.is("meant", box.meant(1, 0), 2);
        DUE.is("falsely, W 0", box.falsely(0, 0), 1);
        DUE.is("falsely, W 0", box.falsely(1, 0), 2);
        // WEIGHTS at 0: 10 times 10, 10 times 19, 1 times 27; the third is GUESSED by no VOICE
        DUE.is("misheard, how many", box.misheard(-1), 3);
        DUE.is("misheard: the first by 101 is the second", box.misheard(0), 0);
        DUE.is("misheard: the third by 101", box.misheard(1), 2);
        DUE.is("misheard: the third by 1, the first is not", box.misheard(2), 12);
        DUE.is("needs: 19 times 10 is as much as 10 times 19", box.needs(0, 0, 0), 18);
    }

    private static void apartIsNotLeftOver() {
        BeansBox box = Due.box("b0 0 0;w0 0 0;w999 0 0;v1;");
        DUE.is("0 and 9 are 9 APART, three times", box.call(0, 999), 27);
        DUE.is("and back", box.call(0, 0), 27);
        DUE.is("0 and 9 are 9 APART", box.call(0, 9), 9);
        DUE.is("9 and 10 are 10 APART", box.call(0, 10), 10);
        DUE.is("0 and 999", box.alike(26, -1), 1);
        box.call(0, 0);
        DUE.is("0 and 999 are 27 APART", box.alike(26, -1), 0);
        DUE.is("999 SHIFTED is 990, 9 APART from W 999", Due.box("b0 0 999;w999 0 0;v1;").falsely(0, 8), 0);
        DUE.is("999 SHIFTED is 990, 9 APART from W 999", Due.box("b0 0 999;w999 0 0;v1;").falsely(0, 9), 1);
    }

    // ---- THE SEED

    private static void threeDraws(int from, int to) {
        BeansBox box = Due.box("b0 0 0;w0 0 0;v0;");
        box.seed(from);
        box.drift(1);
        DUE.is("three DRAWS from " + from, box.seed(0), to);
    }

    private static void seed() {
        // 0: 12345, 1406932606, 654583775; 2147483647: 1043980748, 288979989, 646343466
        threeDraws(0, 654583775);
        threeDraws(654583775, 1109335178);
        threeDraws(2147483647, 646343466);
        threeDraws(80477501, 0);
        threeDraws(1486203808, 2147483647);
        threeDraws(822234842, 1);
        threeDraws(1073741824, 1728325599);
        BeansBox box = Due.box("b0 0 0;w0 0 0;v0;");
        box.drift(2);
        DUE.is("six DRAWS from 0", box.seed(0), 1109335178);
    }

    /** A deed that draws nothing leaves THE SEED, and what is drawn goes on from it. */
    private static void seedThroughCalls() {
        BeansBox box = Due.box("b0 0 0;w0 0 0;v0;");
        box.drift(1);
        box.hear(0);
        box.letBe();
        box.call(0, 5);
        box.undo();
        box.keep(0);
        box.tear();
        Due.tell(box, "b0 0 0;w0 0 0;v0;");
        box.drift(1);
        DUE.is("six DRAWS from 0", box.seed(0), 1109335178);
        BeansBox undone = Due.box("b0 0 0;w0 0 0;v0;");
        undone.drift(1);
        undone.undo();
        undone.drift(1);
        DUE.is("six DRAWS from 0, THE SEED is not undone", undone.seed(0), 1109335178);
        BeansBox back = Due.box("b0 0 0;w0 0 0;v0;");
        back.keep(1);
        back.drift(1);
        back.goBack(1);
        back.drift(1);
        DUE.is("three DRAWS from 0, gone back to it", back.seed(0), 654583775);
    }

    // ---- a DRAW

    private static long seed;

    private static int draw(int n) {
        seed = Long.remainderUnsigned(seed * 1103515245L + 12345L, 1L << 31);
        return (int) (seed / 65536 % n);
    }

    private static String text(int words, int voices) {
        StringBuilder all = new StringBuilder("b9 10 0;");
        for (int w = 0; w < words; w++) {
            all.append('w').append(111 * w).append(' ').append(3 * w).append(" 9;");
        }
        for (int v = 0; v < voices; v++) {
            all.append('v').append(222 * v).append(';');
        }
        return all.toString();
    }

    private static void oneDraw(int words, int voices, int from) {
        String name = words + " WORDS, " + voices + " VOICES, SEED " + from + ": ";
        BeansBox drifted = Due.box(text(words, voices));
        drifted.seed(from);
        BeansBox heard = Due.box(text(words, voices));
        seed = from;
        int v = draw(voices);
        int w = draw(words);
        boolean minded = draw(3) == 0;
        heard.hear(heard.said(w, v));
        boolean other = heard.told(8) != w;
        CASES[(minded ? 2 : 0) + (other ? 1 : 0)]++;
        if (minded && other) {
            heard.takeBack(w);
        } else {
            heard.letBe();
        }
        DUE.is(name + "drift", drifted.drift(1), heard.told(7));
        for (int i = 0; i < words; i++) {
            DUE.is(name + "USUAL of " + i, drifted.word(i, 1), heard.word(i, 1));
            DUE.is(name + "list of " + i, drifted.word(i, 3), heard.word(i, 3));
        }
        DUE.is(name + "no GUESS is kept", drifted.told(8), -1);
        DUE.is(name + "THE SEED", drifted.seed(0), seed);
    }

    private static void draws() {
        // the next SEEDS of these are k times 65536 or 1 less: first as what the VOICE, then as what the WORD is drawn by
        int[] from = {0, 1, 2147483647, 2088216195, 2032319262, 1742513795, 1340914462, 1051108995, 204577074, 1167983449,
            571119922, 1901069145, 1304205618, 707963808, 1449721149, 1298967456, 2040724797, 77, 4711, 1000000007};
        for (int words = 1; words <= 8; words++) {
            for (int voices = 1; voices <= 4; voices++) {
                for (int its : from) {
                    oneDraw(words, voices, its);
                }
            }
        }
        for (int i = 0; i < 4; i++) {
            DUE.holds("the draws have each way of being learnt by: " + i, CASES[i] > 5);
        }
    }

    private static void drawsOfOne() {
        BeansBox box = Due.box("b0 0 0;w0 0 0;v0;");
        box.seed(2147483647);
        DUE.is("a DRAW of 1", box.drift(1), 0);
        DUE.is("is the only WORD", box.word(0, 3), 1);
        DUE.is("and draws all the same", box.seed(0), 646343466);
    }

    /** SEEDS whose third DRAW is 0, 1, 2 of 3; the first two are of one VOICE and of two WORDS that are like: the GUESS is 0. */
    private static void drawOfThree() {
        int[][] found = new int[6][];
        for (int from = 0; from < 200; from++) {
            seed = from;
            draw(1);
            int w = draw(2);
            int third = draw(3);
            found[2 * third + w] = new int[] {from, w, third};
        }
        for (int[] its : found) {
            DUE.holds("a SEED for each", its != null);
            if (its == null) {
                return;
            }
            BeansBox box = Due.box("b0 0 0;w5 50 0;w5 50 0;v0;");
            box.seed(its[0]);
            box.drift(1);
            boolean back = its[1] == 1 && its[2] == 0;
            String name = "WORD " + its[1] + " was said, a DRAW of " + its[2] + ": ";
            DUE.is(name + "USUAL of the GUESS", box.word(0, 1), back ? 49 : 51);
            DUE.is(name + "USUAL of the other", box.word(1, 1), back ? 52 : 50);
            DUE.is(name + "list of the GUESS", box.word(0, 3), back ? 0 : 1);
            DUE.is(name + "list of the other", box.word(1, 3), back ? 1 : 0);
            DUE.is(name + "HEARD", box.told(6), 1);
        }
    }
}
