/** Promises 29 to 37: see, speaker, sayNext, write, tear, judge, seed, keep, goBack. */
public final class SeenTest {
    private static final int U = BeansBox.UNKNOWN, O = BeansBox.OUTSIDE, N = BeansBox.NOT, F = BeansBox.FULL;
    private static final int FAR = Integer.MAX_VALUE, DEEP = Integer.MIN_VALUE;
    private static final Due DUE = new Due("SeenTest");

    public static void main(String[] args) {
        see();
        speaker();
        sayNext();
        write();
        tear();
        judge();
        seed();
        keepAndGoBack();
        imagesKeepAll();
        imagesRefuse();
        DUE.end();
    }

    private static void see() {
        BeansBox box = Due.box("b0 0 0;w100 9 0;w500 9 0;");
        DUE.is("alike", box.see(0, 0), 1);
        DUE.is("the same again", box.see(0, 0), 2);
        DUE.is("see", box.see(1, 0), 3);
        DUE.is("no w", box.see(2, 0), U);
        DUE.is("no g", box.see(0, 2), U);
        DUE.is("no g", box.see(0, -1), U);
        DUE.is("no w", box.see(-1, 0), U);
        DUE.is("see far", box.see(FAR, DEEP), U);
        DUE.is("see far", box.see(0, FAR), U);
        DUE.is("SEEN", box.told(10), 3);
        DUE.is("see", box.see(0, 1), 4);
        DUE.is("see", box.see(1, 1), 5);
        DUE.is("see", box.see(1, 1), 6);
        DUE.is("full", box.see(1, 1), F);
        DUE.is("full, no w", box.see(2, 1), U);
        DUE.is("SEEN", box.told(10), 6);
        DUE.is("what can be undone", box.told(12), 0);
        box.tear();
        DUE.is("see again", box.see(1, 1), 1);
        DUE.is("no KITCHEN", new BeansBox().see(0, 0), U);
    }

    private static void speaker() {
        // by 400 all is GUESSED 1
        BeansBox box = Due.box("b0 0 0;w100 9 0;w500 9 0;v0;v400;v0;");
        DUE.is("nothing SEEN: all", box.speaker(), 7);
        box.see(1, 1);
        DUE.is("all", box.speaker(), 7);
        box.see(0, 0);
        DUE.is("who said 0 right", box.speaker(), 5);
        // by 400: 501 is 901, nearer to it than to 500
        box.call(0, 501);
        DUE.is("SOUNDS as when asked", box.speaker(), 7);
        // by 400: 105 is 505, as near to 501
        box.call(1, 105);
        DUE.is("SOUNDS as when asked", box.speaker(), 5);
        box.undo();
        box.undo();
        DUE.is("SOUNDS as when asked", box.speaker(), 5);
        box.see(0, 1);
        DUE.is("no one", box.speaker(), 0);
        box.tear();
        box.see(0, 1);
        DUE.is("who said 0 wrong", box.speaker(), 2);
        for (int i = 0; i < 30; i++) {
            box.hear(100);
            box.letBe();
        }
        DUE.is("USUAL as when asked", box.speaker(), 0);
        DUE.is("no VOICES", Due.box("b0 0 0;w0 0 0;").speaker(), 0);
        DUE.is("no WORDS", Due.box("b0 0 0;v0;v1;v2;v3;").speaker(), 15);
    }

    private static void sayNext() {
        BeansBox box = Due.box("b0 0 0;w100 9 0;w500 9 0;v0;v400;");
        DUE.is("0 parts them", box.sayNext(), 0);
        box.see(1, 1);
        DUE.is("0 parts them", box.sayNext(), 0);
        box.see(0, 0);
        DUE.is("one alone", box.sayNext(), -1);
        box.see(0, 1);
        DUE.is("no one", box.sayNext(), -1);
        // 500 is GUESSED 0, 2, 0; 100 is GUESSED 1, 0, 2
        BeansBox best = Due.box("b0 0 0;w500 9 0;w100 9 0;w900 9 0;v0;v400;v800;");
        DUE.is("best, not first", best.sayNext(), 1);
        best.see(1, 0);
        DUE.is("one alone", best.sayNext(), -1);
        best.tear();
        best.see(0, 0);
        DUE.is("of two, the first", best.sayNext(), 1);
        // of like ones the least: 100 is GUESSED 0, 1, 2; 500 is GUESSED 1, 2, 0
        DUE.is("of like ones the least", Due.box("b0 0 0;w100 9 0;w500 9 0;w900 9 0;v0;v400;v800;").sayNext(), 0);
        DUE.is("none parts them", Due.box("b0 0 0;w100 9 0;w500 9 0;v0;v0;v1;").sayNext(), -1);
        DUE.is("one alone", Due.box("b0 0 0;w100 9 0;w500 9 0;v0;").sayNext(), -1);
        DUE.is("no WORDS", Due.box("b0 0 0;v0;v400;").sayNext(), -1);
        DUE.is("no VOICES", Due.box("b0 0 0;w0 0 0;w500 0 0;").sayNext(), -1);
    }

    private static void write() {
        BeansBox box = Due.box("b0 0 0;w100 9 0;w500 9 0;");
        DUE.is("no word", box.write(2, 0), U);
        DUE.is("no word, outside", box.write(-1, 100), U);
        DUE.is("write far", box.write(FAR, 0), U);
        DUE.is("write far", box.write(DEEP, DEEP), U);
        DUE.is("write(0, 100)", box.write(0, 100), O);
        DUE.is("write(0, -1)", box.write(0, -1), O);
        DUE.is("write far", box.write(0, FAR), O);
        DUE.is("write far", box.write(1, DEEP), O);
        DUE.is("entries", box.told(11), 0);
        for (int i = 1; i <= 15; i++) {
            DUE.is("write", box.write(i % 2, i == 1 ? 99 : 0), i);
        }
        DUE.is("a full book", box.write(0, 0), F);
        DUE.is("a full book, no word", box.write(2, 0), U);
        DUE.is("a full book, outside", box.write(0, 100), O);
        DUE.is("entries", box.told(11), 15);
        DUE.is("what can be undone", box.told(12), 0);
        DUE.is("no KITCHEN", new BeansBox().write(0, 0), U);
    }

    private static void tear() {
        BeansBox box = Due.box("b0 0 0;w100 9 0;w500 9 0;");
        DUE.is("nothing", box.tear(), 0);
        box.see(0, 0);
        box.see(0, 1);
        box.write(0, 5);
        DUE.is("both", box.tear(), 3);
        DUE.is("SEEN", box.told(10), 0);
        DUE.is("entries", box.told(11), 0);
        DUE.is("judge", box.judge(), -1);
        DUE.is("nothing more", box.tear(), 0);
        for (int i = 0; i < 20; i++) {
            box.see(0, 1);
            box.write(0, 5);
        }
        box.keep(1);
        box.hear(100);
        DUE.is("both full", box.tear(), 21);
        DUE.is("what can be undone stays", box.undo(), 0);
        DUE.is("IMAGES stay", box.goBack(1), 1);
        DUE.is("write again", box.write(0, 0), 1);
        DUE.is("see again", box.see(0, 0), 1);
        DUE.is("without KITCHEN", new BeansBox().tear(), 0);
    }

    private static void judge() {
        BeansBox box = Due.box("b0 0 0;w100 9 0;w500 9 0;v0;");
        DUE.is("no book", box.judge(), -1);
        box.write(0, 0);
        DUE.is("right", box.judge(), -1);
        box.write(1, 1);
        box.write(0, 2);
        DUE.is("the first", box.judge(), 1);
        box.hear(500);
        DUE.is("the next", box.judge(), 2);
        box.hear(100);
        DUE.is("0 is once there", box.judge(), 0);
        box.undo();
        box.undo();
        DUE.is("as it is now", box.judge(), 1);
        DUE.is("no KITCHEN", new BeansBox().judge(), -1);
    }

    private static void seed() {
        BeansBox box = Due.box("b0 0 0;w0 0 0;v0;");
        DUE.is("0 at first", box.seed(1), 0);
        DUE.is("what it was", box.seed(FAR), 1);
        DUE.is("what it was", box.seed(0), FAR);
        DUE.is("-1", box.seed(-1), O);
        DUE.is("far", box.seed(DEEP), O);
        DUE.is("what it was", box.seed(0), 0);
        box.drift(1);
        // three draws: 12345, then 1406932606, then 654583775
        DUE.is("three draws from 0", box.seed(1), 654583775);
        box.drift(1);
        // 1103527590, 377401575, 662824084
        DUE.is("three draws from 1", box.seed(FAR), 662824084);
        box.drift(60);
        int later = box.seed(0);
        DUE.holds("within 31 bits", later >= 0);
        DUE.is("what can be undone", box.told(12), 3);
        DUE.is("without KITCHEN", new BeansBox().seed(7), 0);
    }

    private static void keepAndGoBack() {
        BeansBox box = Due.box("b1 2 0;w100 10 0;w500 10 99;v0;v5;");
        box.seed(3);
        box.hear(500);
        String first = "";
        DUE.is("keep 0", box.keep(0), 1);
        first = Due.shownWithSeed(box);
        DUE.is("nothing can be undone", box.told(12), 0);
        DUE.is("nothing can be undone", box.undo(), N);
        box.drift(30);
        box.call(1, 222);
        DUE.is("keep 1", box.keep(1), 1);
        String second = Due.shownWithSeed(box);
        box.hear(100);
        box.seed(99);
        DUE.is("go back to 0", box.goBack(0), 1);
        DUE.holds("as it was", first.equals(Due.shownWithSeed(box)));
        DUE.is("nothing can be undone", box.undo(), N);
        DUE.is("what was HEARD is kept", box.letBe(), 11);
        DUE.is("go back to 1", box.goBack(1), 1);
        DUE.holds("as it was", second.equals(Due.shownWithSeed(box)));
        DUE.is("nothing can be undone", box.told(12), 0);
        box.hear(100);
        box.takeBack(1);
        DUE.is("go back to 0 again", box.goBack(0), 1);
        DUE.holds("an image does not change", first.equals(Due.shownWithSeed(box)));
        box.call(0, 1);
        String third;
        box.keep(0);
        third = Due.shownWithSeed(box);
        box.call(0, 2);
        box.goBack(0);
        DUE.holds("kept anew", third.equals(Due.shownWithSeed(box)));
    }

    private static void imagesKeepAll() {
        BeansBox box = Due.box("b1 2 0;w100 10 0;w500 10 99;v0;v5;");
        box.seed(3);
        box.hear(100);
        box.hear(500);
        box.call(0, 123);
        box.see(0, 0);
        box.write(0, 7);
        Due.feed(box, "abc");
        box.keep(0);
        box.letBe();
        box.call(0, 456);
        box.drift(50);
        box.see(1, 1);
        box.write(1, 7);
        Due.feed(box, "d");
        box.goBack(0);
        DUE.is("SOUND", box.word(0, 0), 123);
        DUE.is("USUAL", box.word(0, 1), 10);
        DUE.is("USUAL", box.word(1, 1), 10);
        DUE.is("list", box.word(0, 3), 1);
        DUE.is("list", box.word(1, 3), 0);
        DUE.is("HEARD", box.told(6), 2);
        DUE.is("CROSS", box.told(7), 1);
        DUE.is("kept", box.told(8), 1);
        DUE.is("THE SEED", box.seed(8), 3);
        DUE.is("SEEN is no part of it", box.told(10), 2);
        DUE.is("THE BOOK is no part of it", box.told(11), 2);
        DUE.is("THE TEXT is no part of it", box.told(5), 4);
    }

    private static void imagesRefuse() {
        BeansBox box = Due.box("b1 2 0;w100 10 0;v0;");
        box.hear(100);
        for (int i : new int[] {2, -1, FAR, DEEP}) {
            DUE.is("keep(" + i + ")", box.keep(i), U);
            DUE.is("goBack(" + i + ")", box.goBack(i), U);
        }
        DUE.is("goBack(0)", box.goBack(0), N);
        DUE.is("goBack(1)", box.goBack(1), N);
        DUE.is("what is refused leaves what can be undone", box.told(12), 1);
        box.keep(1);
        DUE.is("goBack(0)", box.goBack(0), N);
        DUE.is("goBack(1)", box.goBack(1), 1);
        Due.tell(box, "x");
        DUE.is("goBack(1) behind a FAULT", box.goBack(1), 1);
        Due.tell(box, "b1 2 0;w100 10 0;v0;");
        DUE.is("goBack(1) in a new KITCHEN", box.goBack(1), N);
        BeansBox none = new BeansBox();
        none.seed(4);
        DUE.is("keep without KITCHEN", none.keep(0), 1);
        none.seed(5);
        DUE.is("goBack without KITCHEN", none.goBack(0), 1);
        DUE.is("THE SEED", none.seed(0), 4);
    }
}
