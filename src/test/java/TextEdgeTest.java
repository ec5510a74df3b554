/** Promises 1 to 3 at their edges: each method has the sentence that it tests. */
public final class TextEdgeTest {
    public static void main(String[] args) {
        Check c = new Check();
        onlyBytesAreFed(c);
        everyByteIsKept(c);
        emptyAtFirst(c);
        tellsHowMany(c);
        fullWithSixty(c);
        noByteWithSixty(c);
        fullAgainAfterWipe(c);
        wipeTellsHowMany(c);
        wipedBytesAreGone(c);
        wipeLeavesAllElse(c);
        failedMakeLeavesTheText(c);
        failedMakeLeavesAFullText(c);
        c.end();
    }

    /** "BYTES are 0 .. 255." "Appends a byte (else REFUSED)" */
    private static void onlyBytesAreFed(Check c) {
        for (int b = -300; b <= 600; b++) {
            fedAlone(c, b);
        }
        int[] far = {Integer.MIN_VALUE, Integer.MIN_VALUE + 90, -65536, 65535, 65536, 65536 + 90, Integer.MAX_VALUE};
        for (int b : far) {
            fedAlone(c, b);
        }
    }

    private static void fedAlone(Check c, int b) {
        PayChain x = new PayChain();
        boolean isByte = b >= 0 && b <= 255;
        c.due("feed(" + b + ")", x.feed(b), isByte ? 1 : PayChain.REFUSED);
        c.due("count(0) after feed(" + b + ")", x.count(0), isByte ? 1 : 0);
        c.due("wipe after feed(" + b + ")", x.wipe(), isByte ? 1 : 0);
    }

    /** "Appends a byte": each of the 256 as it is. */
    private static void everyByteIsKept(Check c) {
        for (int b = 0; b <= 255; b++) {
            c.due("the byte " + b, CardText.needed().with(5, b).asCard().value(0, 5, 0), b);
        }
    }

    /** "The TEXT is a row of at most 60 bytes, empty at first." */
    private static void emptyAtFirst(Check c) {
        c.due("count(0)", new PayChain().count(0), 0);
        c.due("wipe", new PayChain().wipe(), 0);
        PayChain x = new PayChain();
        c.due("make of the empty text", x.make(0, 7, 1), PayChain.UNFIT);
        c.due("place", x.place(), 90);
    }

    /** "how many it has", up to the last that has room. */
    private static void tellsHowMany(Check c) {
        PayChain x = new PayChain();
        for (int n = 1; n <= 60; n++) {
            c.due("feed as byte " + n, x.feed(255 - n), n);
            c.due("count(0)", x.count(0), n);
        }
    }

    private static PayChain sixty() {
        int[] value = new int[48];
        for (int i = 0; i < value.length; i++) {
            value[i] = 100 + i;
        }
        return CardText.needed().with(5, value).to(new PayChain());
    }

    /** "FULL with 60." and "A call that answers .. FULL .. changes nothing" */
    private static void fullWithSixty(Check c) {
        PayChain x = sixty();
        c.due("bytes", x.count(0), 60);
        c.unchanged("feed(0) with 60", x, () -> x.feed(0), PayChain.FULL);
        PayChain y = sixty();
        c.due("feed(255) with 60", y.feed(255), PayChain.FULL);
        c.due("feed(1) with 60", y.feed(1), PayChain.FULL);
        c.due("still 60", y.count(0), 60);
        c.due("a card of 60 bytes", y.make(3, 7, 1), 4);
        c.due("its first byte", y.value(3, 90, 0), 2);
        c.due("its last byte", y.value(3, 5, 47), 147);
        c.due("nothing behind it", y.value(3, 5, 48), PayChain.REFUSED);
        c.due("the text is empty", y.count(0), 0);
        c.due("and takes bytes again", y.feed(4), 1);
    }

    /** "Appends a byte (else REFUSED)": what is no byte is refused first, full or not. */
    private static void noByteWithSixty(Check c) {
        PayChain x = sixty();
        c.due("feed(-1) with 60", x.feed(-1), PayChain.REFUSED);
        c.due("feed(256) with 60", x.feed(256), PayChain.REFUSED);
        c.due("still 60", x.count(0), 60);
        x.wipe();
        c.due("feed(256) with none", x.feed(256), PayChain.REFUSED);
    }

    /** "The text is empty": 60 bytes have room again. */
    private static void fullAgainAfterWipe(Check c) {
        PayChain x = sixty();
        x.feed(9);
        c.due("wipe", x.wipe(), 60);
        for (int n = 1; n <= 60; n++) {
            c.due("feed after wipe", x.feed(n), n);
        }
        c.due("the 61st", x.feed(61), PayChain.FULL);
    }

    /** "how many bytes it had": none, one, some. */
    private static void wipeTellsHowMany(Check c) {
        PayChain x = new PayChain();
        int[] sizes = {0, 1, 2, 59, 0, 60, 1};
        for (int size : sizes) {
            for (int i = 0; i < size; i++) {
                x.feed(i);
            }
            c.due("wipe with " + size, x.wipe(), size);
            c.due("count(0)", x.count(0), 0);
        }
        c.due("wipe of an empty text", x.wipe(), 0);
    }

    /** "The text is empty": what was there does not come back behind a shorter one. */
    private static void wipedBytesAreGone(Check c) {
        PayChain x = sixty();
        x.wipe();
        x.feed(5);
        x.feed(1);
        c.due("make", x.make(0, 7, 1), PayChain.BAD);
        c.due("place", x.place(), 0);
        x.feed(1);
        c.due("make", x.make(0, 7, 1), PayChain.UNFIT);
    }

    /** "The text is empty", and nothing else is changed. */
    private static void wipeLeavesAllElse(Check c) {
        PayChain x = CardText.online();
        x.pay(0, 10, -1, 2);
        String before = Check.state(x);
        x.feed(90);
        x.wipe();
        c.same("after feed and wipe", Check.state(x), before);
    }

    /** "A call that answers REFUSED, FULL, or a code below changes nothing": the text can be mended by more bytes. */
    private static void failedMakeLeavesTheText(Check c) {
        int[] bytes = {90, 1, 2, 95, 36, 2, 0, 100, 140, 0};
        int[] made = {-3, -3, -4, -3, -3, -3, -3, -4, -3, 3};
        int[] places = {0, 0, 140, 3, 3, 3, 3, 140, 8, -1};
        PayChain x = new PayChain();
        for (int i = 0; i < bytes.length; i++) {
            c.due("feed", x.feed(bytes[i]), i + 1);
            c.due("make of " + (i + 1) + " bytes", x.make(0, 7, 1), made[i]);
            c.due("place of " + (i + 1) + " bytes", x.place(), places[i]);
            c.due("count(0)", x.count(0), made[i] < 0 ? i + 1 : 0);
        }
    }

    /** The same with a text that has no more room. */
    private static void failedMakeLeavesAFullText(Check c) {
        PayChain bad = new PayChain();
        for (int i = 0; i < 60; i++) {
            bad.feed(90);
        }
        c.due("BAD", bad.make(0, 7, 1), PayChain.BAD);
        c.due("full as before", bad.feed(1), PayChain.FULL);
        PayChain many = new PayChain();
        for (int i = 0; i < 60; i++) {
            many.feed(0);
        }
        c.due("30 objects", many.make(0, 7, 1), PayChain.FULL);
        c.due("full as before", many.feed(1), PayChain.FULL);
        PayChain good = sixty();
        c.due("REFUSED", good.make(4, 7, 1), PayChain.REFUSED);
        c.due("full as before", good.feed(1), PayChain.FULL);
        c.due("and good", good.make(0, 7, 1), 4);
    }
}
