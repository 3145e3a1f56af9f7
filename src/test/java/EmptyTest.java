import java.util.LinkedHashMap;
import java.util.Map;
import java.util.function.ToIntFunction;

/** What is empty: THE TEXT, THE KITCHEN, its WORDS, its VOICES, what is HEARD, SEEN, in THE BOOK, to undo, an IMAGE. */
public final class EmptyTest {
    private static final int U = BeansBox.UNKNOWN, N = BeansBox.NOT, NONE = BeansBox.NONE;
    private static final String TWO = "b10 12 500;w100 10 0;w500 10 99;v0;v40;";
    private static final Due DUE = new Due("EmptyTest");

    public static void main(String[] args) {
        noKitchen();
        emptyTextTakesAllAway();
        emptyTextIsTakenOnce();
        noWordsNoVoices();
        noWords();
        noVoices();
        nothingHeard();
        nothingSeen();
        noEntry();
        nothingToUndo();
        noImage();
        DUE.end();
    }

    // ---- no KITCHEN

    private static BeansBox full() {
        BeansBox box = Due.box(TWO);
        box.drift(9);
        box.keep(0);
        box.keep(1);
        box.hear(500);
        box.call(0, 123);
        box.see(0, 1);
        box.write(0, 98);
        return box;
    }

    private static BeansBox told(BeansBox box, String... texts) {
        for (String text : texts) {
            Due.tell(box, text);
        }
        box.seed(0);
        return box;
    }

    private static void noKitchen() {
        Map<String, BeansBox> ways = new LinkedHashMap<>();
        ways.put("a new object", new BeansBox());
        ways.put("an empty text", told(new BeansBox(), ""));
        ways.put("a blank", told(new BeansBox(), " "));
        ways.put("240 blanks", told(new BeansBox(), " ".repeat(240)));
        ways.put("an empty text behind a KITCHEN", told(full(), ""));
        ways.put("blanks behind a KITCHEN", told(full(), "   "));
        ways.put("blanks behind a KITCHEN and a FAULT", told(full(), "b", "   "));
        for (Map.Entry<String, BeansBox> way : ways.entrySet()) {
            answersWithoutKitchen(way.getKey(), way.getValue());
        }
        BeansBox fault = told(new BeansBox(), "b1 2 3;w1");
        DUE.is("a FAULT in a new object: its place", fault.fault(), 9);
        Due.tell(fault, "");
        DUE.is("an empty text behind it: no FAULT", fault.fault(), NONE);
        answersWithoutKitchen("an empty text behind a FAULT", fault);
    }

    private static void answersWithoutKitchen(String way, BeansBox box) {
        for (int what = 0; what <= 12; what++) {
            DUE.is(way + ": told(" + what + ")", box.told(what), what == 8 ? NONE : 0);
        }
        DUE.is(way + ": fault", box.fault(), NONE);
        DUE.is(way + ": word", box.word(0, 0), U);
        DUE.is(way + ": voice", box.voice(0), U);
        DUE.is(way + ": hear", box.hear(0), N);
        DUE.is(way + ": takeBack", box.takeBack(0), U);
        DUE.is(way + ": letBe", box.letBe(), N);
        DUE.is(way + ": call", box.call(0, 0), U);
        DUE.is(way + ": drift", box.drift(1), N);
        DUE.is(way + ": drift", box.drift(60), N);
        DUE.is(way + ": undo", box.undo(), N);
        triedWithoutWords(way, box);
        triedWithoutVoices(way, box);
        DUE.is(way + ": asks as if A were 0", box.asks(9), 4);
        DUE.is(way + ": asks as if A were 0", box.asks(10), 5);
        DUE.is(way + ": waked", box.waked(1, 50), 500000000);
        DUE.is(way + ": speaker", box.speaker(), 0);
        DUE.is(way + ": tear", box.tear(), 0);
        DUE.is(way + ": goBack", box.goBack(0), N);
        DUE.is(way + ": goBack", box.goBack(1), N);
        DUE.is(way + ": seed", box.seed(9), 0);
        DUE.is(way + ": keep", box.keep(1), 1);
        DUE.is(way + ": seed", box.seed(8), 9);
        DUE.is(way + ": goBack", box.goBack(1), 1);
        DUE.is(way + ": THE SEED of the IMAGE", box.seed(0), 9);
        DUE.is(way + ": the other IMAGE", box.goBack(0), N);
        DUE.is(way + ": drift behind goBack", box.drift(1), N);
        DUE.is(way + ": kitchen", box.kitchen(), 0);
        DUE.is(way + ": feed", box.feed('b'), 1);
    }

    /** None of these asks for a VOICE. */
    private static void triedWithoutWords(String way, BeansBox box) {
        DUE.is(way + ": guess", box.guess(0), NONE);
        DUE.is(way + ": sure", box.sure(0, 0), U);
        DUE.is(way + ": rule", box.rule(0), N);
        DUE.is(way + ": worth of doing", box.worth(0, 0), N);
        DUE.is(way + ": worth of asking", box.worth(0, 1), N);
        DUE.is(way + ": worth of silence", box.worth(0, 2), N);
        DUE.is(way + ": misheard, how many", box.misheard(NONE), 0);
        DUE.is(way + ": misheard, the first", box.misheard(0), NONE);
        DUE.is(way + ": who", box.who(0), 0);
        DUE.is(way + ": alike, how many", box.alike(27, NONE), 0);
        DUE.is(way + ": alike, the first", box.alike(27, 0), NONE);
        DUE.is(way + ": wake, the SOUND", box.wake(0), 0);
        DUE.is(way + ": wake, how far", box.wake(1), 27);
        DUE.is(way + ": bestCalled", box.bestCalled(0, 0), U);
        DUE.is(way + ": see", box.see(0, 0), U);
        DUE.is(way + ": sayNext", box.sayNext(), NONE);
        DUE.is(way + ": write", box.write(0, 0), U);
        DUE.is(way + ": judge", box.judge(), NONE);
    }

    private static void triedWithoutVoices(String way, BeansBox box) {
        DUE.is(way + ": said", box.said(0, 0), U);
        DUE.is(way + ": misheard, how many", box.misheard(NONE), 0);
        DUE.is(way + ": misheard, the first", box.misheard(0), NONE);
        DUE.is(way + ": who", box.who(0), 0);
        DUE.is(way + ": meant", box.meant(0, 0), U);
        DUE.is(way + ": falsely", box.falsely(0, 27), U);
        DUE.is(way + ": needs", box.needs(0, 0, 0), U);
        DUE.is(way + ": needs", box.needs(0, 0, 1), U);
        DUE.is(way + ": speaker", box.speaker(), 0);
        DUE.is(way + ": sayNext", box.sayNext(), NONE);
    }

    private static void emptyTextTakesAllAway() {
        for (String text : new String[] {"", " ", " ".repeat(240)}) {
            BeansBox box = full();
            int seed = box.seed(4321);
            DUE.holds("drift has drawn", seed != 0);
            DUE.is("kitchen of no letters", Due.tell(box, text), 0);
            DUE.is("no FAULT", box.fault(), NONE);
            DUE.is("THE SEED stays", box.seed(0), 4321);
        }
    }

    private static void emptyTextIsTakenOnce() {
        BeansBox box = new BeansBox();
        DUE.is("a KITCHEN", Due.tell(box, TWO), 2);
        DUE.is("THE TEXT is empty then: no KITCHEN", box.kitchen(), 0);
        DUE.is("no KITCHEN", box.drift(1), N);
        DUE.is("a FAULT", Due.tell(box, TWO + "x"), -11);
        DUE.is("THE TEXT is empty then, too", box.told(5), 0);
        DUE.is("no KITCHEN, and no FAULT", box.kitchen(), 0);
        DUE.is("no FAULT", box.fault(), NONE);
    }

    // ---- a KITCHEN without WORDS, without VOICES

    private static void noWordsNoVoices() {
        BeansBox box = Due.box("b3 4 5;");
        int[] want = {3, 4, 5, 0, 0, 0, 0, 0, NONE, 0, 0, 0, 0};
        for (int what = 0; what < want.length; what++) {
            DUE.is("neither: told(" + what + ")", box.told(what), want[what]);
        }
        DUE.is("neither: word", box.word(0, 0), U);
        DUE.is("neither: voice", box.voice(0), U);
        DUE.is("neither: takeBack", box.takeBack(0), U);
        DUE.is("neither: call", box.call(0, 0), U);
        DUE.is("neither: hear", box.hear(0), N);
        triedWithoutWords("neither", box);
        triedWithoutVoices("neither", box);
        DUE.is("neither: asks", box.asks(6), 1);
        DUE.is("neither: asks", box.asks(7), 2);
        driftsNothing("neither", box);
    }

    private static void noWords() {
        BeansBox box = Due.box("b3 4 5;v0;v999;v5;v50;");
        DUE.is("no WORDS: VOICES", box.told(4), 4);
        DUE.is("no WORDS: voice", box.voice(1), 999);
        DUE.is("no WORDS: hear", box.hear(0), N);
        DUE.is("no WORDS: takeBack", box.takeBack(0), U);
        DUE.is("no WORDS: letBe", box.letBe(), N);
        DUE.is("no WORDS: call", box.call(0, 0), U);
        DUE.is("no WORDS: undo", box.undo(), N);
        triedWithoutWords("no WORDS", box);
        DUE.is("no WORDS: said", box.said(0, 0), U);
        DUE.is("no WORDS: meant", box.meant(3, 0), 0);
        DUE.is("no WORDS: falsely", box.falsely(3, 27), 0);
        DUE.is("no WORDS: needs", box.needs(0, 0, 0), U);
        DUE.is("no WORDS: nothing SEEN, all VOICES", box.speaker(), 15);
        driftsNothing("no WORDS", box);
    }

    private static void noVoices() {
        BeansBox box = Due.box("b10 12 500;w100 10 0;w500 10 99;");
        DUE.is("no VOICES: voice", box.voice(0), U);
        triedWithoutVoices("no VOICES", box);
        DUE.is("no VOICES: guess", box.guess(500), 1);
        DUE.is("no VOICES: rule", box.rule(500), 1);
        DUE.is("no VOICES: alike", box.alike(4, NONE), 1);
        DUE.is("no VOICES: bestCalled, its own", box.bestCalled(1, 0), 500);
        DUE.is("no VOICES: bestCalled, how many", box.bestCalled(1, 1), 0);
        driftsNothing("no VOICES", box);
        DUE.is("no VOICES: see", box.see(0, 0), 1);
        DUE.is("no VOICES: speaker", box.speaker(), 0);
        DUE.is("no VOICES: sayNext", box.sayNext(), NONE);
        DUE.is("no VOICES: hear", box.hear(500), 1);
        DUE.is("no VOICES: drift answers CROSS", box.drift(60), 1);
        DUE.is("no VOICES: drift hears nothing", box.told(6), 1);
        DUE.is("no VOICES: drift leaves what is kept", box.letBe(), 11);
    }

    /** It is not refused: so it can be undone. */
    private static void driftsNothing(String way, BeansBox box) {
        box.seed(31);
        int before = box.told(12);
        DUE.is(way + ": drift", box.drift(1), 0);
        DUE.is(way + ": drift", box.drift(60), 0);
        DUE.is(way + ": nothing HEARD", box.told(6), 0);
        DUE.is(way + ": no GUESS is kept", box.told(8), NONE);
        DUE.is(way + ": no DRAW", box.seed(31), 31);
        DUE.is(way + ": deeds", box.told(12), before + 2);
        DUE.is(way + ": undone", box.undo(), before + 1);
        DUE.is(way + ": undone", box.undo(), before);
    }

    // ---- nothing HEARD, SEEN, written, to undo, kept

    private static void nothingHeard() {
        BeansBox box = Due.box(TWO);
        DUE.is("nothing HEARD: told", box.told(6), 0);
        DUE.is("nothing HEARD: no GUESS", box.told(8), NONE);
        DUE.is("nothing HEARD: THE LIST", box.told(9), 0);
        noneIsKept("nothing HEARD", box);
        box.call(0, 101);
        noneIsKept("CALLED", box);
        box.hear(500);
        box.undo();
        noneIsKept("what was HEARD is undone", box);
        box.hear(500);
        box.letBe();
        noneIsKept("let be", box);
        box.hear(500);
        box.takeBack(0);
        noneIsKept("taken back", box);
        box.drift(3);
        noneIsKept("drifted", box);
        box.keep(0);
        box.hear(500);
        box.goBack(0);
        noneIsKept("gone back", box);
    }

    private static void noneIsKept(String way, BeansBox box) {
        DUE.is(way + ": told", box.told(8), NONE);
        DUE.is(way + ": letBe", box.letBe(), N);
        DUE.is(way + ": takeBack of 0", box.takeBack(0), N);
        DUE.is(way + ": takeBack of 1", box.takeBack(1), N);
        DUE.is(way + ": takeBack of no WORD", box.takeBack(2), U);
    }

    private static void nothingSeen() {
        BeansBox box = Due.box(TWO);
        DUE.is("nothing SEEN: all VOICES", box.speaker(), 3);
        DUE.is("nothing SEEN: none parts them", box.sayNext(), NONE);
        DUE.is("nothing SEEN: tear", box.tear(), 0);
        BeansBox parted = Due.box("b0 0 0;w100 9 0;w500 9 0;v0;v400;");
        DUE.is("nothing SEEN: 0 parts them", parted.sayNext(), 0);
        parted.see(0, 0);
        parted.see(0, 1);
        DUE.is("what none could have SEEN: no VOICE", parted.speaker(), 0);
        DUE.is("no VOICE: none parts them", parted.sayNext(), NONE);
        parted.tear();
        DUE.is("nothing SEEN any more", parted.speaker(), 3);
        DUE.is("nothing SEEN any more", parted.sayNext(), 0);
    }

    private static void noEntry() {
        BeansBox box = Due.box(TWO);
        DUE.is("no entry", box.judge(), NONE);
        box.write(0, 1);
        DUE.is("an entry", box.judge(), 0);
        DUE.is("tear", box.tear(), 1);
        DUE.is("no entry any more", box.judge(), NONE);
        DUE.is("no entry any more", box.told(11), 0);
        DUE.is("the first again", box.write(1, 1), 1);
        DUE.is("the first again is judged", box.judge(), 0);
    }

    private static void nothingToUndo() {
        Map<String, ToIntFunction<BeansBox>> ways = new LinkedHashMap<>();
        ways.put("a KITCHEN", box -> 0);
        ways.put("what can be undone is undone", box -> box.hear(500) + box.undo());
        ways.put("a KITCHEN anew", box -> box.hear(500) + Due.tell(box, TWO));
        ways.put("an IMAGE is kept", box -> box.hear(500) + box.keep(0));
        ways.put("gone back", box -> box.keep(0) + box.hear(500) + box.goBack(0));
        ways.put("SEEN", box -> box.see(0, 0));
        ways.put("written", box -> box.write(0, 0));
        ways.put("torn", box -> box.see(0, 0) + box.tear());
        ways.put("seeded", box -> box.seed(5));
        for (Map.Entry<String, ToIntFunction<BeansBox>> way : ways.entrySet()) {
            BeansBox box = Due.box(TWO);
            way.getValue().applyAsInt(box);
            String before = Due.shown(box);
            DUE.is(way.getKey() + ": can be undone", box.told(12), 0);
            DUE.is(way.getKey() + ": undo", box.undo(), N);
            DUE.holds(way.getKey() + ": undo changes nothing", before.equals(Due.shown(box)));
        }
    }

    private static void noImage() {
        BeansBox box = Due.box(TWO);
        box.hear(500);
        for (int i = 0; i < 2; i++) {
            DUE.is("no IMAGE " + i, box.goBack(i), N);
        }
        DUE.is("what is refused leaves what can be undone", box.told(12), 1);
        box.keep(1);
        DUE.is("the other IMAGE", box.goBack(0), N);
        DUE.is("the IMAGE", box.goBack(1), 1);
        DUE.is("the IMAGE once more", box.goBack(1), 1);
        Due.tell(box, "b1 2 3");
        DUE.is("a FAULT leaves it", box.goBack(1), 1);
        Due.tell(box, TWO);
        DUE.is("gone with THE KITCHEN", box.goBack(1), N);
        box.keep(0);
        DUE.is("only 0 is kept anew", box.goBack(1), N);
        DUE.is("0 is kept anew", box.goBack(0), 1);
    }
}
