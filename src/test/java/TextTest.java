/** Promises 2 and 3: feed and wipe. */
public final class TextTest {
    public static void main(String[] args) {
        Check c = new Check();
        PayChain x = new PayChain();
        c.due("feed(-1)", x.feed(-1), PayChain.REFUSED);
        c.due("feed(256)", x.feed(256), PayChain.REFUSED);
        c.due("feed(MIN)", x.feed(Integer.MIN_VALUE), PayChain.REFUSED);
        c.due("feed(MAX)", x.feed(Integer.MAX_VALUE), PayChain.REFUSED);
        c.due("nothing fed", x.count(0), 0);
        c.due("feed(0)", x.feed(0), 1);
        c.due("feed(255)", x.feed(255), 2);
        for (int i = 3; i <= 60; i++) {
            c.due("feed as byte " + i, x.feed(i), i);
        }
        c.due("feed with 60", x.feed(1), PayChain.FULL);
        c.due("no byte, with 60", x.feed(256), PayChain.REFUSED);
        c.due("count(0)", x.count(0), 60);
        c.due("wipe", x.wipe(), 60);
        c.due("wipe again", x.wipe(), 0);
        c.due("feed after wipe", x.feed(9), 1);
        wipeStartsAnew(c);
        c.end();
    }

    private static void wipeStartsAnew(Check c) {
        PayChain x = new PayChain();
        x.feed(1);
        x.feed(2);
        x.wipe();
        c.due("make of the new text", CardText.needed().make(x, 0, 0, 0), 3);
        c.due("its first value", x.value(0, 90, 0), 2);
        c.due("wipe leaves cards", x.wipe() + x.card(0, 4), 3);
    }
}
