/** Promises 1 to 7: a new object, feed, kitchen, fault, told, word, voice. */
public final class KitchenTest {
    private static final int U = BeansBox.UNKNOWN, O = BeansBox.OUTSIDE, N = BeansBox.NOT, F = BeansBox.FULL;
    private static final Due DUE = new Due("KitchenTest");

    public static void main(String[] args) {
        newObject();
        feed();
        goodTexts();
        emptyTexts();
        faultsOfPlace();
        faultsOfNumbers();
        faultsOfMany();
        firstFaultThenLeast();
        faultLeavesAll();
        earlierTextsLeaveNothing();
        kitchenAnew();
        told();
        word();
        voice();
        DUE.end();
    }

    private static void newObject() {
        BeansBox box = new BeansBox();
        int[] want = {0, 0, 0, 0, 0, 0, 0, 0, -1, 0, 0, 0, 0};
        for (int what = 0; what < want.length; what++) {
            DUE.is("new told(" + what + ")", box.told(what), want[what]);
        }
        DUE.is("new fault", box.fault(), -1);
        DUE.is("new word", box.word(0, 0), U);
        DUE.is("new voice", box.voice(0), U);
        DUE.is("new hear", box.hear(0), N);
        DUE.is("new takeBack", box.takeBack(0), U);
        DUE.is("new letBe", box.letBe(), N);
        DUE.is("new call", box.call(0, 0), U);
        DUE.is("new drift", box.drift(1), N);
        DUE.is("new undo", box.undo(), N);
        DUE.is("new guess", box.guess(0), -1);
        DUE.is("new rule", box.rule(0), N);
        DUE.is("new worth", box.worth(0, 1), N);
        DUE.is("new goBack", box.goBack(0), N);
        DUE.is("new seed", box.seed(5), 0);
        DUE.is("constants", BeansBox.NONE, -1);
        DUE.is("constants", U, -1000000001);
        DUE.is("constants", O, -1000000002);
        DUE.is("constants", N, -1000000003);
        DUE.is("constants", F, -1000000004);
    }

    private static void feed() {
        BeansBox box = new BeansBox();
        DUE.is("feed 0", box.feed(0), 1);
        DUE.is("feed 255", box.feed(255), 2);
        DUE.is("feed -1", box.feed(-1), O);
        DUE.is("feed 256", box.feed(256), O);
        DUE.is("feed far below", box.feed(Integer.MIN_VALUE), O);
        DUE.is("feed far above", box.feed(Integer.MAX_VALUE), O);
        DUE.is("letters", box.told(5), 2);
        for (int i = 3; i <= 240; i++) {
            DUE.is("feed the " + i + "th", box.feed(' '), i);
        }
        DUE.is("feed the 241st", box.feed(' '), F);
        DUE.is("feed the 241st outside", box.feed(256), O);
        DUE.is("feed the 241st outside", box.feed(-1), O);
        DUE.is("letters of a full text", box.told(5), 240);
        DUE.is("kitchen of a wrong full text", box.kitchen(), -11);
        DUE.is("fault of a wrong full text", box.fault(), 0);
        DUE.is("letters behind it", box.told(5), 0);
        DUE.is("feed behind it", box.feed('b'), 1);
    }

    private static void good(String text, int words, int voices) {
        BeansBox box = new BeansBox();
        DUE.is("kitchen of '" + text + "'", Due.tell(box, text), words);
        DUE.is("fault of '" + text + "'", box.fault(), -1);
        DUE.is("words of '" + text + "'", box.told(3), words);
        DUE.is("voices of '" + text + "'", box.told(4), voices);
        DUE.is("letters behind '" + text + "'", box.told(5), 0);
    }

    private static void goodTexts() {
        good("b0 0 0;", 0, 0);
        good("b99 99 999;", 0, 0);
        good("b099 000 007;", 0, 0);
        good("  b  1   2    3  ;  ", 0, 0);
        good("b1 2 3;w1 2 3;", 1, 0);
        good("b1 2 3;v1;", 0, 1);
        good("b1 2 3;v1;w1 2 3;v2;w4 5 6;", 2, 2);
        good("b 1 2 3 ; w 999 99 99 ; v 999 ; ", 1, 1);
        good("b0 0 0;" + "w0 0 0;".repeat(8) + "v0;".repeat(4), 8, 4);
        String full = "b1 2 3;" + "w0 0 0;".repeat(8) + "v0;".repeat(4);
        good(full + " ".repeat(240 - full.length()), 8, 4);
        BeansBox box = Due.box("b 7 08 009;w 012 03 4;v 05;");
        DUE.is("A", box.told(0), 7);
        DUE.is("S", box.told(1), 8);
        DUE.is("W", box.told(2), 9);
        DUE.is("C", box.word(0, 0), 12);
        DUE.is("U", box.word(0, 1), 3);
        DUE.is("K", box.word(0, 2), 4);
        DUE.is("D", box.voice(0), 5);
    }

    private static void emptyTexts() {
        for (String text : new String[] {"", " ", "    ", " ".repeat(240)}) {
            good(text, 0, 0);
            BeansBox box = Due.box("b1 2 3;w1 2 3;v1;");
            box.hear(1);
            box.see(0, 0);
            box.write(0, 1);
            box.keep(0);
            DUE.is("kitchen of blanks", Due.tell(box, text), 0);
            int[] want = {0, 0, 0, 0, 0, 0, 0, 0, -1, 0, 0, 0, 0};
            for (int what = 0; what < want.length; what++) {
                DUE.is("told(" + what + ") behind blanks", box.told(what), want[what]);
            }
            DUE.is("drift behind blanks: no KITCHEN", box.drift(1), N);
            DUE.is("hear behind blanks", box.hear(1), N);
            DUE.is("goBack behind blanks", box.goBack(0), N);
            DUE.is("undo behind blanks", box.undo(), N);
        }
        BeansBox box = Due.box("b1 2 3;");
        DUE.is("drift in a KITCHEN without WORDS", box.drift(1), 0);
    }

    private static void bad(String text, int kind, int place) {
        BeansBox box = new BeansBox();
        DUE.is("kitchen of '" + text + "'", Due.tell(box, text), -10 - kind);
        DUE.is("fault of '" + text + "'", box.fault(), place);
        DUE.is("letters behind '" + text + "'", box.told(5), 0);
        DUE.is("drift behind '" + text + "'", box.drift(1), N);
    }

    private static void faultsOfPlace() {
        bad("w1 2 3;", 1, 0);
        bad("v1;", 1, 0);
        bad("  w1 2 3;", 1, 2);
        bad("x", 1, 0);
        bad("B1 2 3;", 1, 0);
        bad("5", 1, 0);
        bad(";", 1, 0);
        bad("\t", 1, 0);
        bad(" \n", 1, 1);
        bad("b", 1, 1);
        bad("b ", 1, 2);
        bad("b1", 1, 2);
        bad("b1 ", 1, 3);
        bad("b1 2", 1, 4);
        bad("b1 2 3", 1, 6);
        bad("b1 2 3  ", 1, 8);
        bad("b;", 1, 1);
        bad("b1;", 1, 2);
        bad("b1 2;", 1, 4);
        bad("b1 2 3 4;", 1, 7);
        bad("b1 2 3w", 1, 6);
        bad("b1,2,3;", 1, 2);
        bad("b-1 2 3;", 1, 1);
        bad("b1 2 3;;", 1, 7);
        bad("b1 2 3;7", 1, 7);
        bad("b1 2 3;x", 1, 7);
        bad("b1 2 3; W1 2 3;", 1, 8);
        bad("b1 2 3;w", 1, 8);
        bad("b1 2 3;w1 2 ;", 1, 12);
        bad("b1 2 3;w1 2 3", 1, 13);
        bad("b1 2 3;w1 2 3 4;", 1, 14);
        bad("b1 2 3;v", 1, 8);
        bad("b1 2 3;v;", 1, 8);
        bad("b1 2 3;v1", 1, 9);
        bad("b1 2 3;v1 2;", 1, 10);
        bad("b1 2 3;v1;\0", 1, 10);
        bad("b1 2 3;v1;" + (char) 255, 1, 10);
        bad("bw1 2 3;", 1, 1);
    }

    private static void faultsOfNumbers() {
        bad("b100 0 0;", 2, 1);
        bad("b 100 0 0;", 2, 2);
        bad("b0 100 0;", 2, 3);
        bad("b0 0 1000;", 2, 5);
        bad("b0000 0 0;", 2, 1);
        bad("b0001 0 0;", 2, 1);
        bad("b0 0 0999;", 2, 5);
        bad("b1234567890123456789012345678901234567890", 2, 1);
        bad("b4294967296 0 0;", 2, 1);
        bad("b4294967301", 2, 1);
        bad("b" + "9".repeat(239), 2, 1);
        bad("b" + "0".repeat(239), 2, 1);
        bad("b100", 2, 1);
        bad("b100x", 2, 1);
        bad("b1 234;", 2, 3);
        bad("b1 2345", 2, 3);
        bad("b0 0 0;w1000 0 0;", 2, 8);
        bad("b0 0 0;w0 100 0;", 2, 10);
        bad("b0 0 0;w0 0 100;", 2, 12);
        bad("b0 0 0;w0 0 0100;", 2, 12);
        bad("b0 0 0;v1000;", 2, 8);
        bad("b0 0 0;v0000;", 2, 8);
        good("b0 0 0;v999;", 0, 1);
    }

    private static void faultsOfMany() {
        bad("b0 0 0;b", 3, 7);
        bad("b0 0 0;b0 0 0;", 3, 7);
        bad("b0 0 0; b0 0 0;", 3, 8);
        bad("b0 0 0;w0 0 0;v0;b0 0 0;", 3, 17);
        String eight = "b0 0 0;" + "w0 0 0;".repeat(8);
        bad(eight + "w", 3, 63);
        bad(eight + "w0 0 0;", 3, 63);
        bad(eight + "v0;w0 0 0;", 3, 66);
        bad("b0 0 0;v0;v0;v0;v0;v", 3, 19);
        bad("b0 0 0;v0;v0;v0;v0; v0;", 3, 20);
        good(eight + "v0;v0;v0;v0;", 8, 4);
    }

    private static void firstFaultThenLeast() {
        bad("b100 x;w", 2, 1);
        bad("b1 b2 3;", 1, 3);
        bad("b1 2 3 b", 1, 7);
        bad("b1 2 3 4567;", 1, 7);
        bad("b0 0 0;" + "w0 0 0;".repeat(7) + "w0 w", 1, 59);
        bad("b0 0 0;v1000;b", 2, 8);
        bad("b0 0 0;b1000", 3, 7);
        bad("b0 0 0;x1000;b", 1, 7);
        bad("b0 0 0;v0;v0;v0;v0 v", 1, 19);
    }

    private static void faultLeavesAll() {
        faultLeavesAll("b9 9 9;w1 1 1;w2 2 2;w3 3 3;v0;x", 1, 31);
        faultLeavesAll("b9 9 9;w1 1 1;w2 2 2;w3 3 3;v1000;", 2, 29);
        faultLeavesAll("b9 9 9;w1 1 1;w2 2 2;w3 3 3;v0;b9 9 9;", 3, 31);
    }

    private static void faultLeavesAll(String text, int kind, int place) {
        BeansBox box = Due.box("b1 2 3;w100 5 9;w200 6 8;v1;v2;");
        box.keep(0);
        box.seed(77);
        box.hear(100);
        box.letBe();
        box.call(1, 300);
        box.keep(1);
        box.hear(300);
        box.see(0, 1);
        box.write(1, 3);
        String before = Due.shownWithSeed(box);
        DUE.is("a text with a FAULT", Due.tell(box, text), -10 - kind);
        DUE.is("its place", box.fault(), place);
        DUE.is("letters", box.told(5), 0);
        DUE.holds("a FAULT leaves all as it was", before.equals(Due.shownWithSeed(box)));
        DUE.is("a FAULT leaves what can be undone", box.undo(), 0);
        DUE.is("a FAULT leaves IMAGE 1", box.goBack(1), 1);
        DUE.is("IMAGE 1", box.word(1, 0), 300);
        DUE.is("a FAULT leaves IMAGE 0", box.goBack(0), 1);
        DUE.is("IMAGE 0", box.word(1, 0), 200);
        DUE.is("a good text behind it", Due.tell(box, "b1 1 1;"), 0);
        DUE.is("its place", box.fault(), -1);
    }

    private static void earlierTextsLeaveNothing() {
        BeansBox box = Due.box("b1 2 3;w1 2 3;v1;v2;");
        Due.tell(box, "b4 5 6;w4 5 6;v4;v5;v6;");
        DUE.is("kitchen of blanks", Due.tell(box, " "), 0);
        for (int what = 0; what <= 4; what++) {
            DUE.is("told(" + what + ") behind two kitchens and blanks", box.told(what), 0);
        }
        DUE.is("a FAULT behind VOICES", Due.tell(box, "b1 2 3;v1;v2;v3;v4;x"), -11);
        DUE.is("a KITCHEN behind it", Due.tell(box, "b1 2 3;v7;"), 0);
        DUE.is("its VOICES", box.told(4), 1);
        DUE.is("its VOICE", box.voice(0), 7);
        DUE.is("a longer text", Due.tell(box, "b1 2 3;v99;"), 0);
        DUE.is("letters of the longer text are gone", Due.tell(box, "b1 2 3"), -11);
        DUE.is("the end", box.fault(), 6);
        DUE.is("a longer text", Due.tell(box, "b1 2 3;v99;"), 0);
        DUE.is("figures of the longer text are gone", Due.tell(box, "b1 2 3;v9"), -11);
        DUE.is("the end", box.fault(), 9);
        bad("b1 2 3" + " ".repeat(234), 1, 240);
        bad("b1 2" + " ".repeat(236), 1, 240);
        bad("b1 2 3;" + "v" + " ".repeat(229) + "999", 1, 240);
        good("b1 2 3" + " ".repeat(233) + ";", 0, 0);
    }

    private static void kitchenAnew() {
        BeansBox box = Due.box("b1 2 3;w100 5 9;w200 6 8;v1;v2;");
        box.seed(77);
        box.drift(5);
        box.call(0, 555);
        box.keep(0);
        box.keep(1);
        box.hear(100);
        box.see(0, 1);
        box.write(1, 3);
        int seed = box.seed(1234);
        DUE.holds("drift has drawn", seed != 77);
        DUE.is("kitchen anew", Due.tell(box, "b4 5 6;w300 7 8;v9;"), 1);
        int[] want = {4, 5, 6, 1, 1, 0, 0, 0, -1, 0, 0, 0, 0};
        for (int what = 0; what < want.length; what++) {
            DUE.is("told(" + what + ") anew", box.told(what), want[what]);
        }
        DUE.is("word anew", box.word(0, 0), 300);
        DUE.is("word anew", box.word(0, 1), 7);
        DUE.is("word anew", box.word(0, 2), 8);
        DUE.is("word anew", box.word(0, 3), 0);
        DUE.is("word anew", box.word(1, 0), U);
        DUE.is("voice anew", box.voice(0), 9);
        DUE.is("voice anew", box.voice(1), U);
        DUE.is("images are gone", box.goBack(0), N);
        DUE.is("images are gone", box.goBack(1), N);
        DUE.is("nothing to undo", box.undo(), N);
        DUE.is("nothing kept", box.letBe(), N);
        DUE.is("THE SEED stays", box.seed(0), 1234);
        // the same text once more: CALLED names and learnt USUAL are gone
        BeansBox twice = Due.box("b1 99 3;w100 5 0;w200 6 8;v1;");
        twice.hear(100);
        twice.letBe();
        twice.call(0, 1);
        twice.hear(1);
        twice.hear(200);
        DUE.is("kitchen twice", Due.tell(twice, "b1 99 3;w100 5 0;w200 6 8;v1;"), 2);
        DUE.is("SOUND as told", twice.word(0, 0), 100);
        DUE.is("USUAL as told", twice.word(0, 1), 5);
        DUE.is("THE LIST is empty", twice.word(0, 3), 0);
        DUE.is("THE LIST is empty", twice.told(9), 0);
        DUE.is("CROSS is 0", twice.told(7), 0);
        DUE.is("HEARD is 0", twice.told(6), 0);
    }

    private static void told() {
        BeansBox box = Due.box("b10 12 500;w345 20 30;w355 5 9;v0;v10;v111;");
        DUE.is("told A", box.told(0), 10);
        DUE.is("told S", box.told(1), 12);
        DUE.is("told W", box.told(2), 500);
        DUE.is("told WORDS", box.told(3), 2);
        DUE.is("told VOICES", box.told(4), 3);
        Due.feed(box, "abc");
        DUE.is("told letters", box.told(5), 3);
        box.write(0, 0);
        box.write(0, 0);
        box.see(0, 0);
        DUE.is("told SEEN", box.told(10), 1);
        DUE.is("told entries", box.told(11), 2);
        box.call(0, 345);
        DUE.is("told undone", box.told(12), 1);
        DUE.is("told -1", box.told(-1), O);
        DUE.is("told 13", box.told(13), O);
        DUE.is("told far", box.told(Integer.MAX_VALUE), O);
        DUE.is("told far", box.told(Integer.MIN_VALUE), O);
    }

    private static void word() {
        BeansBox box = Due.box("b99 99 0;w345 20 30;w355 5 0;");
        DUE.is("SOUND", box.word(0, 0), 345);
        DUE.is("USUAL", box.word(0, 1), 20);
        DUE.is("K", box.word(0, 2), 30);
        DUE.is("list", box.word(0, 3), 0);
        DUE.is("SOUND", box.word(1, 0), 355);
        box.hear(345);
        DUE.is("list", box.word(0, 3), 1);
        box.call(0, 12);
        DUE.is("SOUND now", box.word(0, 0), 12);
        box.letBe();
        DUE.is("USUAL now", box.word(0, 1), 21);
        DUE.is("no word", box.word(2, 0), U);
        DUE.is("no word", box.word(-1, 0), U);
        DUE.is("no word", box.word(8, 9), U);
        DUE.is("no word", box.word(Integer.MAX_VALUE, 0), U);
        DUE.is("no word", box.word(Integer.MIN_VALUE, Integer.MIN_VALUE), U);
        DUE.is("no such", box.word(0, 4), O);
        DUE.is("no such", box.word(0, -1), O);
        DUE.is("no such", box.word(1, Integer.MAX_VALUE), O);
    }

    private static void voice() {
        BeansBox box = Due.box("b1 1 0;v10;v0;v999;v7;");
        DUE.is("voice", box.voice(0), 10);
        DUE.is("voice", box.voice(1), 0);
        DUE.is("voice", box.voice(2), 999);
        DUE.is("voice", box.voice(3), 7);
        DUE.is("no voice", box.voice(4), U);
        DUE.is("no voice", box.voice(-1), U);
        DUE.is("no voice", box.voice(Integer.MAX_VALUE), U);
        DUE.is("no voice", box.voice(Integer.MIN_VALUE), U);
    }
}
