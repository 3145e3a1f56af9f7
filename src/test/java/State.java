import java.util.function.Consumer;

/** A box that can be made anew, always in the same way, and what is counted in it: told here by hand, not asked of the box. */
final class State {
    final String name;
    private final String text;
    private final Consumer<BeansBox> deeds;
    boolean stands = false;
    int words = 0;
    int voices = 0;
    int letters = 0;
    int heard = 0;
    int kept = -1;
    int seen = 0;
    int entries = 0;
    int undone = 0;
    /** A SET of the IMAGES that are kept. */
    int images = 0;

    State(String name, String text, Consumer<BeansBox> deeds) {
        this.name = name;
        this.text = text;
        this.deeds = deeds;
    }

    /** There is a KITCHEN. */
    State of(int words, int voices) {
        stands = true;
        this.words = words;
        this.voices = voices;
        return this;
    }

    State deeds(int heard, int kept, int undone) {
        this.heard = heard;
        this.kept = kept;
        this.undone = undone;
        return this;
    }

    State beside(int letters, int seen, int entries, int images) {
        this.letters = letters;
        this.seen = seen;
        this.entries = entries;
        this.images = images;
        return this;
    }

    BeansBox make() {
        BeansBox box = new BeansBox();
        if (text != null) {
            Due.tell(box, text);
        }
        deeds.accept(box);
        return box;
    }

    void check(Due due) {
        BeansBox box = make();
        due.is(name + ": WORDS", box.told(3), words);
        due.is(name + ": VOICES", box.told(4), voices);
        due.is(name + ": letters", box.told(5), letters);
        due.is(name + ": HEARD", box.told(6), heard);
        due.is(name + ": kept", box.told(8), kept);
        due.is(name + ": SEEN", box.told(10), seen);
        due.is(name + ": entries", box.told(11), entries);
        due.is(name + ": can be undone", box.told(12), undone);
    }

    // ---- states that several tests look at

    private static void ordinaryDeeds(BeansBox box) {
        box.seed(77);
        box.drift(9);
        box.keep(1);
        box.hear(500);
        box.letBe();
        box.call(0, 123);
        box.see(0, 0);
        box.see(1, 1);
        box.write(0, box.word(0, 3));
        box.write(1, box.word(1, 3));
        Due.tell(box, "b1 2 3 4");
        box.hear(500);
        Due.feed(box, "b5 6");
    }

    private static void fullDeeds(BeansBox box) {
        box.seed(5);
        box.drift(60);
        box.keep(0);
        box.keep(1);
        for (int i = 0; i < 20; i++) {
            box.call(7, 900 + i);
        }
        box.hear(0);
        for (int i = 0; i < 6; i++) {
            box.see(0, 0);
        }
        int listed = box.word(0, 3);
        for (int i = 0; i < 15; i++) {
            box.write(0, listed);
        }
        Due.feed(box, " ".repeat(233) + "b7 7 7;");
    }

    private static void hearToNineThousand(BeansBox box) {
        for (int i = 0; i < 150; i++) {
            box.drift(60);
        }
    }

    static State[] all() {
        String two = "b10 12 500;w100 10 0;w500 10 99;v0;v40;";
        String eight = "b99 99 9;w0 99 1;w9 0 1;w90 0 1;w99 0 1;w900 0 1;w909 0 1;w990 0 1;w999 0 1;v0;v1;v10;v100;";
        return new State[] {
            new State("a new object", null, box -> { }),
            new State("THE KITCHEN is gone", two, box -> {
                ordinaryDeeds(box);
                Due.feed(box, "7;");
                box.kitchen();
                Due.tell(box, "  ");
            }),
            new State("neither WORDS nor VOICES", "b1 2 3;", box -> box.drift(5)).of(0, 0).deeds(0, -1, 1),
            new State("no WORDS", "b1 2 3;v0;v9;", box -> {
                box.keep(0);
                box.drift(5);
            }).of(0, 2).deeds(0, -1, 1).beside(0, 0, 0, 1),
            new State("no VOICES", "b10 12 3;w100 10 0;w500 10 99;", box -> {
                box.hear(500);
                box.see(0, 1);
                box.write(1, 0);
            }).of(2, 0).deeds(1, 1, 1).beside(0, 1, 1, 0),
            new State("an ordinary one", two, State::ordinaryDeeds).of(2, 2).deeds(11, 1, 4).beside(4, 2, 2, 2),
            new State("let be", two, box -> {
                ordinaryDeeds(box);
                box.letBe();
            }).of(2, 2).deeds(11, -1, 5).beside(4, 2, 2, 2),
            new State("all is full", eight, State::fullDeeds).of(8, 4).deeds(61, 0, 20).beside(240, 6, 15, 3),
            new State("HEARD 9000", "b0 0 0;w0 0 0;v0;", State::hearToNineThousand).of(1, 1).deeds(9000, -1, 20),
            new State("HEARD 9001", "b0 0 0;w0 0 0;v0;", box -> {
                hearToNineThousand(box);
                box.hear(0);
            }).of(1, 1).deeds(9001, 0, 20),
        };
    }
}
