import java.lang.management.ManagementFactory;

/** All rows are made with the object: no call makes anything. */
public final class RoomTest {
    private static final Due DUE = new Due("RoomTest");

    public static void main(String[] args) {
        com.sun.management.ThreadMXBean beans = (com.sun.management.ThreadMXBean) ManagementFactory.getThreadMXBean();
        if (!beans.isThreadAllocatedMemorySupported() || !beans.isThreadAllocatedMemoryEnabled()) {
            DUE.holds("this machine does not count what is made", true);
            DUE.end();
            return;
        }
        BeansBox box = Due.box("b3 1 999;w100 99 99;w109 9 99;w0 0 0;w999 0 99;v0;v999;v1;v500;");
        long thread = Thread.currentThread().getId();
        round(box);
        long least = Long.MAX_VALUE;
        // the machine itself may make something once in a while: the least of some rounds is the class's own
        for (int i = 0; i < 5; i++) {
            long before = beans.getThreadAllocatedBytes(thread);
            round(box);
            least = Math.min(least, beans.getThreadAllocatedBytes(thread) - before);
        }
        DUE.holds("a round of all calls made " + least + " bytes", least < 100);
        DUE.end();
    }

    private static void round(BeansBox box) {
        for (int i = 0; i < 20; i++) {
            everyCall(box, i);
        }
    }

    private static void everyCall(BeansBox box, int i) {
        box.feed('b');
        box.feed('0');
        box.feed(i % 2 == 0 ? ' ' : 'x');
        box.kitchen();
        box.fault();
        box.told(9);
        box.word(0, 0);
        box.voice(0);
        box.hear(100);
        box.takeBack(1);
        box.hear(109);
        box.letBe();
        box.call(i % 4, 100 + i);
        box.drift(60);
        box.undo();
        box.guess(i);
        box.sure(0, i);
        box.rule(i);
        box.worth(i, 0);
        box.said(0, 1);
        box.misheard(-1);
        box.who(i);
        box.meant(0, i);
        box.alike(9, -1);
        box.wake(0);
        box.falsely(0, 9);
        box.needs(1, 1, 1);
        box.bestCalled(i % 4, 0);
        box.asks(9999);
        box.waked(60, 3);
        box.see(0, 1);
        box.speaker();
        box.sayNext();
        box.write(0, 1);
        box.judge();
        box.tear();
        box.seed(i);
        box.keep(i % 2);
        box.goBack(i % 2);
    }
}
