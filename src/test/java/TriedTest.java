/** Promises 14 to 28: what is tried. */
public final class TriedTest {
    private static final int U = BeansBox.UNKNOWN, O = BeansBox.OUTSIDE, N = BeansBox.NOT;
    private static final int FAR = Integer.MAX_VALUE, DEEP = Integer.MIN_VALUE;
    private static final Due DUE = new Due("TriedTest");

    /** WEIGHTS at 100: 10 times 28 and 10 times 19; at 109 the other way round. */
    private static final String TWO = "w100 9 10;w109 9 50;";

    public static void main(String[] args) {
        guess();
        sure();
        rule();
        worth();
        said();
        misheard();
        who();
        meant();
        alike();
        wake();
        falsely();
        needs();
        does();
        bestCalled();
        asks();
        waked();
        nothingChanges();
        DUE.end();
    }

    private static void guess() {
        BeansBox box = Due.box("b5 7 0;" + TWO);
        DUE.is("guess", box.guess(100), 0);
        DUE.is("guess", box.guess(104), 0);
        DUE.is("guess", box.guess(105), 1);
        DUE.is("guess", box.guess(109), 1);
        box.call(0, 109);
        DUE.is("SOUND now", box.guess(100), 0);
        box.call(0, 999);
        DUE.is("SOUND now", box.guess(100), 1);
        DUE.is("guess(0)", box.guess(0), 1);
        DUE.is("guess(999)", box.guess(999), 0);
        DUE.is("like WEIGHTS", Due.box("b0 0 0;w3 0 0;w1 0 0;w2 0 0;").guess(2), 2);
        DUE.is("like WEIGHTS: the least", Due.box("b0 0 0;w9 0 0;w1 0 0;w3 0 0;").guess(2), 1);
        DUE.is("like by USUAL and APART", Due.box("b0 0 0;w0 0 0;w5 27 0;w0 28 0;").guess(999), 1);
        DUE.is("far, but usual", Due.box("b0 0 0;w0 99 0;w999 2 0;").guess(999), 0);
        DUE.is("near beats usual", Due.box("b0 0 0;w0 99 0;w999 3 0;").guess(999), 1);
        BeansBox learnt = Due.box("b0 0 0;w100 9 0;w109 9 0;");
        for (int i = 0; i < 3; i++) {
            learnt.hear(109);
            learnt.letBe();
        }
        DUE.is("USUAL now", learnt.guess(104), 1);
        DUE.is("a WEIGHT of 1", Due.box("b0 0 0;w0 0 0;").guess(999), 0);
        DUE.is("no WORDS", Due.box("b0 0 0;").guess(0), -1);
        for (int sound : new int[] {-1, 1000, FAR, DEEP}) {
            DUE.is("guess(" + sound + ")", box.guess(sound), O);
            DUE.is("no WORDS, outside", new BeansBox().guess(sound), O);
        }
    }

    private static void sure() {
        BeansBox box = Due.box("b5 7 0;" + TWO);
        DUE.is("280 of 470", box.sure(0, 100), 595744);
        DUE.is("190 of 470", box.sure(1, 100), 404255);
        DUE.is("240 of 470", box.sure(0, 104), 510638);
        DUE.is("230 of 470", box.sure(1, 104), 489361);
        DUE.is("one alone", Due.box("b0 0 0;w0 0 0;").sure(0, 999), 1000000);
        BeansBox great = Due.box("b0 0 0;" + "w0 99 0;".repeat(8));
        DUE.is("one of eight, of much", great.sure(7, 0), 125000);
        DUE.is("one of eight, of little", great.sure(0, 999), 125000);
        BeansBox most = Due.box("b0 0 0;w0 99 0;w999 0 0;");
        DUE.is("2800 of 2801", most.sure(0, 0), 999642);
        DUE.is("1 of 2801", most.sure(1, 0), 357);
        box.call(1, 100);
        DUE.is("SOUND now", box.sure(0, 100), 500000);
        DUE.is("sure(2, 0)", box.sure(2, 0), U);
        DUE.is("sure(-1, 1000)", box.sure(-1, 1000), U);
        DUE.is("sure far", box.sure(FAR, DEEP), U);
        DUE.is("sure far", box.sure(DEEP, 0), U);
        DUE.is("sure(0, 1000)", box.sure(0, 1000), O);
        DUE.is("sure(0, -1)", box.sure(0, -1), O);
        DUE.is("sure far", box.sure(0, FAR), O);
        DUE.is("no WORDS", new BeansBox().sure(0, 0), U);
    }

    private static void rule() {
        BeansBox box = Due.box("b5 7 0;" + TWO);
        DUE.is("do for 4", box.rule(100), 0);
        DUE.is("ask, not do for 20", box.rule(109), 1);
        DUE.is("silence", Due.box("b7 5 0;" + TWO).rule(109), 2);
        DUE.is("do and ask alike", Due.box("b20 20 0;" + TWO).rule(109), 0);
        DUE.is("ask is less by 1", Due.box("b19 20 0;" + TWO).rule(109), 1);
        DUE.is("silence is less by 1", Due.box("b20 19 0;" + TWO).rule(109), 2);
        DUE.is("ask and silence alike", Due.box("b19 19 0;" + TWO).rule(109), 1);
        DUE.is("nothing changes", box.told(6) + box.told(7) + box.told(9) + box.told(12), 0);
        for (int sound : new int[] {-1, 1000, FAR, DEEP}) {
            DUE.is("rule(" + sound + ")", box.rule(sound), O);
            DUE.is("no WORDS, outside", new BeansBox().rule(sound), O);
        }
        DUE.is("no WORDS", Due.box("b0 0 0;v0;").rule(0), N);
    }

    private static void worth() {
        BeansBox box = Due.box("b5 7 0;" + TWO);
        DUE.is("do", box.worth(100, 0), 4);
        DUE.is("do", box.worth(109, 0), 20);
        DUE.is("do", box.worth(105, 0), 24);
        DUE.is("ask", box.worth(100, 1), 5);
        DUE.is("silence", box.worth(100, 2), 7);
        DUE.is("do, alone", Due.box("b0 0 0;w0 0 99;").worth(999, 0), 0);
        DUE.is("do, of eight", Due.box("b0 0 0;" + "w0 0 99;".repeat(8)).worth(0, 0), 86);
        DUE.is("not less than 1 is cut", Due.box("b0 0 0;w0 99 99;w999 27 99;").worth(0, 0), 0);
        DUE.is("1 and more", Due.box("b0 0 0;w0 99 99;w999 28 99;").worth(0, 0), 1);
        DUE.is("a half of 50 is 25", Due.box("b0 0 0;w7 9 50;w7 9 0;").worth(7, 0), 25);
        // 2210 of 7011 is SURE by 315218: 684782 times 92 is 62999944
        DUE.is("a little less than 63 is cut", Due.box("b0 0 0;w8 97 0;w4 57 0;w2 84 92;w7 68 0;").worth(0, 0), 62);
        DUE.is("worth(100, 3)", box.worth(100, 3), O);
        DUE.is("worth(100, -1)", box.worth(100, -1), O);
        DUE.is("worth far", box.worth(100, FAR), O);
        DUE.is("worth(1000, 1)", box.worth(1000, 1), O);
        DUE.is("worth(-1, 1)", box.worth(-1, 1), O);
        DUE.is("worth far", box.worth(DEEP, 2), O);
        DUE.is("no WORDS", Due.box("b3 4 0;v0;").worth(0, 1), N);
        DUE.is("no WORDS", new BeansBox().worth(0, 2), N);
        DUE.is("no WORDS, outside", new BeansBox().worth(0, 3), O);
        DUE.is("no WORDS, outside", new BeansBox().worth(1000, 0), O);
    }

    private static void said() {
        BeansBox box = Due.box("b0 0 0;w345 0 0;w900 0 0;w999 0 0;v0;v10;v111;v999;");
        DUE.is("by 0", box.said(0, 0), 345);
        DUE.is("by 10", box.said(0, 1), 355);
        DUE.is("by 111", box.said(0, 2), 456);
        DUE.is("by 999", box.said(0, 3), 234);
        DUE.is("left over by 10", box.said(1, 2), 11);
        DUE.is("each PART by itself", box.said(2, 2), 0);
        DUE.is("each PART by itself", box.said(2, 3), 888);
        DUE.is("each PART by itself", box.said(2, 1), 909);
        box.call(0, 5);
        DUE.is("SOUND now", box.said(0, 2), 116);
        DUE.is("said(3, 0)", box.said(3, 0), U);
        DUE.is("said(0, 4)", box.said(0, 4), U);
        DUE.is("said(-1, 0)", box.said(-1, 0), U);
        DUE.is("said(0, -1)", box.said(0, -1), U);
        DUE.is("said far", box.said(FAR, DEEP), U);
        DUE.is("said far", box.said(0, FAR), U);
        DUE.is("said far", box.said(DEEP, 0), U);
    }

    private static void misheard() {
        // by 0: both of the same SOUND are the first; by 400: 100 is 500, 500 is 900
        BeansBox box = Due.box("b0 0 0;w100 9 0;w500 9 0;w100 9 0;v0;v400;");
        int[] want = {2, 10, 12};
        DUE.is("how many", box.misheard(-1), want.length);
        for (int i = 0; i < want.length; i++) {
            DUE.is("misheard(" + i + ")", box.misheard(i), want[i]);
        }
        DUE.is("misheard(3)", box.misheard(3), -1);
        DUE.is("misheard(-2)", box.misheard(-2), -1);
        DUE.is("misheard far", box.misheard(FAR), -1);
        DUE.is("misheard far", box.misheard(DEEP), -1);
        DUE.is("no VOICES", Due.box("b0 0 0;w100 9 0;w100 9 0;").misheard(-1), 0);
        DUE.is("no WORDS", Due.box("b0 0 0;v0;").misheard(-1), 0);
        DUE.is("none", Due.box("b0 0 0;w100 9 0;v999;").misheard(-1), 0);
        DUE.is("none", Due.box("b0 0 0;w100 9 0;v999;").misheard(0), -1);
        box.call(2, 900);
        // by 400: 100 is 500, 500 is 900, 900 is 300, as near to 100 as to 500
        DUE.is("SOUND now", box.misheard(-1), 3);
        DUE.is("SOUND now", box.misheard(0), 10);
        DUE.is("SOUND now", box.misheard(1), 11);
        DUE.is("SOUND now", box.misheard(2), 12);
    }

    private static void who() {
        BeansBox box = Due.box("b0 0 0;w100 9 0;w110 9 0;v0;v10;v20;v990;");
        DUE.is("who(100)", box.who(100), 1);
        DUE.is("who(110)", box.who(110), 3);
        DUE.is("who(120)", box.who(120), 6);
        DUE.is("who(130)", box.who(130), 4);
        DUE.is("who(90)", box.who(90), 8);
        DUE.is("who(0)", box.who(0), 8);
        DUE.is("who(999)", box.who(999), 0);
        box.call(0, 999);
        DUE.is("SOUND now", box.who(999), 1);
        for (int sound : new int[] {-1, 1000, FAR, DEEP}) {
            DUE.is("who(" + sound + ")", box.who(sound), O);
        }
        DUE.is("no KITCHEN", new BeansBox().who(0), 0);
        DUE.is("no KITCHEN", new BeansBox().who(1000), O);
    }

    private static void meant() {
        BeansBox box = Due.box("b0 0 0;w100 9 0;w110 9 0;w100 0 0;v0;v10;");
        DUE.is("meant(0, 100)", box.meant(0, 100), 5);
        DUE.is("meant(0, 110)", box.meant(0, 110), 2);
        DUE.is("meant(1, 110)", box.meant(1, 110), 5);
        DUE.is("meant(1, 120)", box.meant(1, 120), 2);
        DUE.is("meant(1, 100)", box.meant(1, 100), 0);
        DUE.is("meant(2, 0)", box.meant(2, 0), U);
        DUE.is("meant(-1, 1000)", box.meant(-1, 1000), U);
        DUE.is("meant far", box.meant(FAR, 0), U);
        DUE.is("meant far", box.meant(DEEP, FAR), U);
        DUE.is("meant(0, 1000)", box.meant(0, 1000), O);
        DUE.is("meant(0, -1)", box.meant(0, -1), O);
        DUE.is("meant far", box.meant(0, DEEP), O);
        DUE.is("no WORDS", Due.box("b0 0 0;v0;").meant(0, 0), 0);
        DUE.is("of eight", Due.box("b0 0 0;" + "w0 0 0;".repeat(8) + "v0;").meant(0, 0), 255);
    }

    private static void alike() {
        // APART: 0 and 1: 9, 0 and 2: 0, 1 and 2: 9, 3 is 26, 17, 26 from them
        BeansBox box = Due.box("b0 0 0;w100 9 0;w109 9 0;w100 9 0;w999 9 0;");
        DUE.is("alike(0, -1)", box.alike(0, -1), 1);
        DUE.is("alike(0, 0)", box.alike(0, 0), 2);
        DUE.is("alike(0, 1)", box.alike(0, 1), -1);
        DUE.is("alike(8, -1)", box.alike(8, -1), 1);
        int[] want = {1, 2, 12};
        DUE.is("alike(9, -1)", box.alike(9, -1), 3);
        for (int i = 0; i < 3; i++) {
            DUE.is("alike(9, " + i + ")", box.alike(9, i), want[i]);
        }
        DUE.is("alike(16, -1)", box.alike(16, -1), 3);
        DUE.is("alike(17, -1)", box.alike(17, -1), 4);
        DUE.is("alike(17, 3)", box.alike(17, 3), 13);
        DUE.is("alike(25, -1)", box.alike(25, -1), 4);
        DUE.is("alike(26, -1)", box.alike(26, -1), 6);
        DUE.is("alike(26, 2)", box.alike(26, 2), 3);
        DUE.is("alike(26, 5)", box.alike(26, 5), 23);
        DUE.is("alike(27, 6)", box.alike(27, 6), -1);
        DUE.is("alike(27, -2)", box.alike(27, -2), -1);
        DUE.is("alike far", box.alike(27, FAR), -1);
        DUE.is("alike far", box.alike(27, DEEP), -1);
        DUE.is("alike(28, -1)", box.alike(28, -1), O);
        DUE.is("alike(-1, -1)", box.alike(-1, -1), O);
        DUE.is("alike far", box.alike(FAR, -5), O);
        DUE.is("alike far", box.alike(DEEP, 0), O);
        DUE.is("farthest", Due.box("b0 0 0;w0 0 0;w999 0 0;").alike(26, -1), 0);
        DUE.is("farthest", Due.box("b0 0 0;w0 0 0;w999 0 0;").alike(27, -1), 1);
        DUE.is("no WORDS", new BeansBox().alike(27, -1), 0);
        box.call(3, 100);
        DUE.is("SOUND now", box.alike(0, -1), 3);
    }

    private static void wake() {
        BeansBox box = Due.box("b0 0 7;w0 0 0;v5;");
        DUE.is("farthest from 0", box.wake(0), 999);
        DUE.is("how far", box.wake(1), 27);
        box.call(0, 500);
        DUE.is("farthest from 500", box.wake(0), 99);
        DUE.is("how far", box.wake(1), 23);
        BeansBox two = Due.box("b0 0 0;w0 0 0;w999 0 0;");
        DUE.is("between 0 and 999: the least", two.wake(0), 49);
        DUE.is("how far", two.wake(1), 13);
        DUE.is("no WORDS", Due.box("b0 0 999;v1;").wake(0), 0);
        DUE.is("no WORDS", Due.box("b0 0 999;v1;").wake(1), 27);
        DUE.is("SOUND 0", Due.box("b0 0 0;w999 0 0;").wake(0), 0);
        DUE.is("SOUND 900", Due.box("b0 0 0;w99 0 0;").wake(0), 900);
        DUE.is("SOUND 999", Due.box("b0 0 0;w0 0 0;").wake(0), 999);
        DUE.is("no SOUND 1000", Due.box("b0 0 0;w199 0 0;").wake(0), 900);
        DUE.is("no SOUND 1000", Due.box("b0 0 0;w199 0 0;").wake(1), 26);
        // the last figure is 1 from one of 0, 3, 6, 9 at most
        DUE.is("SOUND 1", Due.box("b0 0 0;w990 0 0;w993 0 0;w996 0 0;w999 0 0;").wake(0), 1);
        DUE.is("how far", Due.box("b0 0 0;w990 0 0;w993 0 0;w996 0 0;w999 0 0;").wake(1), 19);
        for (int what : new int[] {-1, 2, FAR, DEEP}) {
            DUE.is("wake(" + what + ")", box.wake(what), O);
        }
    }

    private static void falsely() {
        BeansBox box = Due.box("b0 0 500;w500 1 1;w501 1 1;w490 1 1;v0;v1;");
        DUE.is("falsely(0, 0)", box.falsely(0, 0), 1);
        DUE.is("falsely(0, 1)", box.falsely(0, 1), 3);
        DUE.is("falsely(0, 9)", box.falsely(0, 9), 3);
        DUE.is("falsely(0, 10)", box.falsely(0, 10), 7);
        DUE.is("falsely(1, 0)", box.falsely(1, 0), 0);
        DUE.is("falsely(1, 1)", box.falsely(1, 1), 1);
        DUE.is("falsely(1, 2)", box.falsely(1, 2), 3);
        DUE.is("falsely(1, 10)", box.falsely(1, 10), 3);
        DUE.is("falsely(1, 27)", box.falsely(1, 27), 7);
        box.call(2, 500);
        DUE.is("SOUND now", box.falsely(0, 0), 5);
        DUE.is("falsely(2, 0)", box.falsely(2, 0), U);
        DUE.is("falsely(-1, 28)", box.falsely(-1, 28), U);
        DUE.is("falsely far", box.falsely(FAR, 1), U);
        DUE.is("falsely far", box.falsely(DEEP, 1), U);
        DUE.is("falsely(0, 28)", box.falsely(0, 28), O);
        DUE.is("falsely(0, -1)", box.falsely(0, -1), O);
        DUE.is("falsely far", box.falsely(0, FAR), O);
        DUE.is("falsely far", box.falsely(1, DEEP), O);
    }

    private static void needs() {
        BeansBox box = Due.box("b5 7 0;" + TWO + "v0;v9;");
        DUE.is("28 times 7, not less than 190", box.needs(0, 0, 0), 6);
        DUE.is("28 times 7, more than 190", box.needs(1, 0, 0), 6);
        // by 9 the first is said 109: 19 times 15 is more than 280
        DUE.is("19 times 15", box.needs(0, 1, 0), 14);
        // by 9 the second is said 108: 27 times 8 is more than 200
        DUE.is("27 times 8", box.needs(1, 1, 0), 7);
        BeansBox same = Due.box("b0 0 0;w7 9 0;w7 9 0;v0;");
        DUE.is("alike is enough for the lesser", same.needs(0, 0, 0), 9);
        DUE.is("alike is not for the other", same.needs(1, 0, 0), 10);
        BeansBox much = Due.box("b0 0 0;w7 99 0;w7 99 0;v0;");
        DUE.is("99", much.needs(0, 0, 0), 99);
        DUE.is("none", much.needs(1, 0, 0), -1);
        DUE.is("0", Due.box("b0 0 0;w7 50 0;w8 0 0;v0;").needs(0, 0, 0), 0);
        DUE.is("0, alone", Due.box("b0 0 0;w7 50 99;v5;").needs(0, 0, 0), 0);
        DUE.is("all is as it was", same.word(0, 1) + same.word(1, 1), 18);
        DUE.is("needs(2, 0, 0)", box.needs(2, 0, 0), U);
        DUE.is("needs(0, 2, 0)", box.needs(0, 2, 0), U);
        DUE.is("needs(-1, 0, 5)", box.needs(-1, 0, 5), U);
        DUE.is("needs(0, -1, 5)", box.needs(0, -1, 5), U);
        DUE.is("needs far", box.needs(FAR, DEEP, FAR), U);
        DUE.is("needs far", box.needs(0, FAR, 0), U);
        DUE.is("needs(0, 0, 2)", box.needs(0, 0, 2), O);
        DUE.is("needs(0, 0, -1)", box.needs(0, 0, -1), O);
        DUE.is("needs far", box.needs(0, 0, FAR), O);
        DUE.is("needs far", box.needs(0, 0, DEEP), O);
    }

    private static void does() {
        // 28 times 50 of that and 190 is SURE by 880503: of K 50 that costs 5
        BeansBox box = Due.box("b5 7 0;w100 9 50;w109 9 50;v0;");
        DUE.is("to cost 5", box.needs(0, 0, 1), 49);
        DUE.is("to cost 7", Due.box("b9 7 0;w100 9 50;w109 9 50;v0;").needs(0, 0, 1), 35);
        DUE.is("to cost 0", Due.box("b0 7 0;w100 9 50;w109 9 50;v0;").needs(0, 0, 1), -1);
        DUE.is("K 0", Due.box("b0 0 0;w100 9 0;w109 9 50;v0;").needs(0, 0, 1), 6);
        DUE.is("0", Due.box("b9 9 0;w100 50 9;v0;").needs(0, 0, 1), 0);
        // 100 of 130 is SURE by 769230: of K 95 that costs 21; 99 of 129 by 767441: 22
        DUE.is("99", Due.box("b21 21 0;w100 9 95;w100 29 0;v0;").needs(0, 0, 1), 99);
        // 100 of 110 is SURE by 909090: of K 99 that costs 9; 101 of 111 would be 8
        DUE.is("100 would do", Due.box("b8 8 0;w100 9 99;w100 9 0;v0;").needs(0, 0, 1), -1);
        DUE.is("the rule is to do it, but another", Due.box("b99 99 0;w100 9 0;w100 9 0;v0;").needs(1, 0, 1), 10);
        DUE.is("guessed, but never done", Due.box("b0 0 0;w100 0 99;w100 9 99;v0;").needs(0, 0, 1), -1);
        DUE.is("guessed", Due.box("b0 0 0;w100 0 99;w100 9 99;v0;").needs(0, 0, 0), 9);
    }

    private static void bestCalled() {
        BeansBox same = Due.box("b0 0 0;w100 9 0;w100 9 0;v0;v1;");
        DUE.is("its own", same.bestCalled(0, 0), 100);
        DUE.is("its own: VOICES", same.bestCalled(0, 1), 2);
        DUE.is("the least of four that are 1 APART", same.bestCalled(1, 0), 0);
        DUE.is("VOICES", same.bestCalled(1, 1), 2);
        // at 990 alone the other WORD, 26 from it, is as heavy as 200; by 1 it is heavier everywhere
        BeansBox hard = Due.box("b0 0 0;w100 9 0;w109 99 0;v0;v1;");
        DUE.is("the only one", hard.bestCalled(0, 0), 990);
        DUE.is("VOICES", hard.bestCalled(0, 1), 1);
        DUE.is("its own", hard.bestCalled(1, 0), 109);
        DUE.is("VOICES", hard.bestCalled(1, 1), 2);
        BeansBox never = Due.box("b0 0 0;w100 0 0;w100 99 0;v0;");
        DUE.is("no SOUND: its own", never.bestCalled(0, 0), 100);
        DUE.is("no VOICES", never.bestCalled(0, 1), 0);
        // only said as 900 (then as 0) it could be GUESSED, but the SOUND said so is 9 APART: 4 times 19 is less than 100
        DUE.is("no SOUND 1000", Due.box("b0 0 0;w99 99 0;w500 3 0;v900;").bestCalled(1, 0), 500);
        DUE.is("no SOUND 1000", Due.box("b0 0 0;w99 99 0;w500 3 0;v900;").bestCalled(1, 1), 0);
        DUE.is("no SOUND -1", Due.box("b0 0 0;w999 99 0;w500 3 0;v1;").bestCalled(1, 0), 500);
        DUE.is("no SOUND -1", Due.box("b0 0 0;w999 99 0;w500 3 0;v1;").bestCalled(1, 1), 0);
        DUE.is("6 times 19 is more than 100", Due.box("b0 0 0;w99 99 0;w500 5 0;v900;").bestCalled(1, 0), 0);
        // 4 times 28 is more than 100, but less than 200: the other WORD is 27 from it, farther than from any other SOUND
        DUE.is("SOUND 999 alone", Due.box("b0 0 0;w0 99 0;w500 3 0;v0;").bestCalled(1, 0), 999);
        DUE.is("SOUND 999 alone", Due.box("b0 0 0;w0 99 0;w500 3 0;v0;").bestCalled(1, 1), 1);
        DUE.is("SOUND 0 alone", Due.box("b0 0 0;w999 99 0;w500 3 0;v0;").bestCalled(1, 0), 0);
        DUE.is("SOUND 0 alone", Due.box("b0 0 0;w999 99 0;w500 3 0;v0;").bestCalled(1, 1), 1);
        // by 111 888 is said 999: 4 times 25 is no more than 100
        BeansBox last = Due.box("b0 0 0;w0 99 0;w500 3 0;v111;v222;v333;v0;");
        DUE.is("the last of more VOICES than WORDS", last.bestCalled(1, 0), 999);
        DUE.is("the last of more VOICES than WORDS", last.bestCalled(1, 1), 1);
        BeansBox mute = Due.box("b0 0 0;w321 0 0;w321 0 0;");
        DUE.is("no VOICES: its own", mute.bestCalled(1, 0), 321);
        DUE.is("no VOICES", mute.bestCalled(1, 1), 0);
        BeansBox alone = Due.box("b0 0 0;w321 0 0;v0;v5;v55;v555;");
        DUE.is("alone: its own", alone.bestCalled(0, 0), 321);
        DUE.is("alone: VOICES", alone.bestCalled(0, 1), 4);
        // 90 times 28 is 2520: more than 100 times 25, 3 APART, but not than 100 times 26
        BeansBox far = Due.box("b0 0 0;w555 99 0;w555 89 0;v0;");
        DUE.is("100 times (28 less n) is less than 90 times 28", far.bestCalled(1, 0), 255);
        DUE.is("VOICES", far.bestCalled(1, 1), 1);
        DUE.is("SOUND stays", far.word(1, 0), 555);
        DUE.is("bestCalled(2, 0)", far.bestCalled(2, 0), U);
        DUE.is("bestCalled(-1, 2)", far.bestCalled(-1, 2), U);
        DUE.is("bestCalled far", far.bestCalled(FAR, 0), U);
        DUE.is("bestCalled far", far.bestCalled(DEEP, 0), U);
        DUE.is("bestCalled(0, 2)", far.bestCalled(0, 2), O);
        DUE.is("bestCalled(0, -1)", far.bestCalled(0, -1), O);
        DUE.is("bestCalled far", far.bestCalled(0, FAR), O);
        DUE.is("bestCalled far", far.bestCalled(0, DEEP), O);
    }

    private static void asks() {
        BeansBox box = Due.box("b10 12 0;w345 20 99;w355 20 99;");
        DUE.is("asks(0)", box.asks(0), 0);
        DUE.is("asks(9)", box.asks(9), 0);
        DUE.is("asks(10)", box.asks(10), 1);
        DUE.is("asks(20)", box.asks(20), 1);
        DUE.is("asks(21)", box.asks(21), 2);
        DUE.is("asks(32)", box.asks(32), 2);
        DUE.is("asks(33)", box.asks(33), 3);
        DUE.is("asks(9999)", box.asks(9999), 99);
        DUE.is("asked", box.hear(345), 1);
        DUE.is("with CROSS 1", box.asks(10), 0);
        DUE.is("with CROSS 1", box.asks(11), 1);
        DUE.is("with CROSS 1", box.asks(22), 1);
        DUE.is("with CROSS 1", box.asks(23), 2);
        BeansBox more = Due.box("b1 2 0;w100 10 0;w500 10 99;");
        DUE.is("done, asked, done", 100 * more.hear(100) + 10 * more.hear(500) + more.hear(0), 10);
        DUE.is("CROSS 1, not HEARD 3", more.asks(1), 0);
        DUE.is("CROSS 1, not HEARD 3", more.asks(2), 1);
        DUE.is("CROSS 1, not HEARD 3", more.asks(4), 1);
        DUE.is("CROSS 1, not HEARD 3", more.asks(5), 2);
        BeansBox none = new BeansBox();
        DUE.is("for nothing the first time", none.asks(0), 1);
        DUE.is("1 the second time", none.asks(1), 2);
        DUE.is("2 the third time", none.asks(2), 2);
        DUE.is("2 the third time", none.asks(3), 3);
        DUE.is("98 times 99 / 2", none.asks(4850), 98);
        DUE.is("98 times 99 / 2", none.asks(4851), 99);
        DUE.is("99 at most", none.asks(9999), 99);
        DUE.is("99 times 99 and 4851", Due.box("b99 0 0;").asks(9999), 73);
        for (int much : new int[] {-1, 10000, FAR, DEEP}) {
            DUE.is("asks(" + much + ")", box.asks(much), O);
        }
    }

    private static void waked() {
        BeansBox box = new BeansBox();
        DUE.is("waked(5, 10)", box.waked(5, 10), 590490000);
        DUE.is("waked(0, 100)", box.waked(0, 100), 1000000000);
        DUE.is("waked(0, 0)", box.waked(0, 0), 1000000000);
        DUE.is("waked(60, 0)", box.waked(60, 0), 1000000000);
        DUE.is("waked(1, 100)", box.waked(1, 100), 0);
        DUE.is("waked(60, 100)", box.waked(60, 100), 0);
        DUE.is("waked(1, 1)", box.waked(1, 1), 990000000);
        DUE.is("waked(4, 33)", box.waked(4, 33), 201511210);
        DUE.is("cut each time", box.waked(5, 33), 135012510);
        DUE.is("cut each time", box.waked(6, 33), 90458381);
        DUE.is("waked(10, 99)", box.waked(10, 99), 0);
        DUE.is("waked(4, 99)", box.waked(4, 99), 10);
        DUE.is("waked(61, 0)", box.waked(61, 0), O);
        DUE.is("waked(-1, 0)", box.waked(-1, 0), O);
        DUE.is("waked(1, 101)", box.waked(1, 101), O);
        DUE.is("waked(1, -1)", box.waked(1, -1), O);
        DUE.is("waked far", box.waked(FAR, 0), O);
        DUE.is("waked far", box.waked(DEEP, 0), O);
        DUE.is("waked far", box.waked(0, FAR), O);
        DUE.is("waked far", box.waked(0, DEEP), O);
    }

    private static void nothingChanges() {
        BeansBox box = Due.box("b5 7 3;w100 9 10;w109 9 50;w444 0 99;v0;v9;v313;");
        box.seed(6);
        box.drift(9);
        box.call(2, 445);
        box.hear(9);
        box.see(0, 0);
        box.write(1, 1);
        String before = Due.shownWithSeed(box);
        for (int i = -1; i < 4; i++) {
            box.guess(i);
            box.sure(i, 100);
            box.rule(i);
            box.worth(100, i);
            box.said(i, 0);
            box.misheard(i);
            box.who(i);
            box.meant(i, 100);
            box.alike(9, i);
            box.wake(i);
            box.falsely(i, 5);
            box.needs(i, 0, 0);
            box.needs(i, 1, 1);
            box.bestCalled(i, 0);
            box.bestCalled(i, 1);
            box.asks(i);
            box.waked(i, 5);
            box.speaker();
            box.sayNext();
            box.judge();
        }
        DUE.holds("nothing changes by what is tried", before.equals(Due.shownWithSeed(box)));
    }
}
