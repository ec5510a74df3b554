/** Promise 8: arguments of pay, and the steps 1, 3, 4, 6 and 7 of a payment. */
public final class PayTest {
    private static final int NEW = 512;
    private static final int FLOOR = 64;

    public static void main(String[] args) {
        Check c = new Check();
        arguments(c);
        dayAndSeen(c);
        floor(c);
        lowerAndUpper(c);
        wish(c);
        upperAsksTheHost(c);
        firstAnswerAndRun(c);
        fullQueue(c);
        c.end();
    }

    private static PayChain with(CardText text) {
        PayChain x = new PayChain();
        x.account(2, 1000, 7);
        text.make(x, 0, 7, 1);
        return x;
    }

    private static void arguments(Check c) {
        PayChain x = with(CardText.needed());
        x.pay(0, 5, -1, 0);
        String before = Check.state(x);
        int[][] refused = {{-1, 1, 1, 0}, {4, 1, 1, 0}, {1, 1, 1, 0}, {0, 0, 1, 0}, {0, -1, 1, 0},
            {0, 1000000, 1, 0}, {0, 1, -2, 0}, {0, 1, 10000, 0}, {0, 1, 1, -1}, {0, 1, 1, 4},
            {Integer.MIN_VALUE, 1, 1, 0}, {Integer.MAX_VALUE, 1, 1, 0}, {0, Integer.MIN_VALUE, 1, 0},
            {0, Integer.MAX_VALUE, 1, 0}, {0, 1, Integer.MIN_VALUE, 0}, {0, 1, Integer.MAX_VALUE, 0},
            {0, 1, 1, Integer.MIN_VALUE}, {0, 1, 1, Integer.MAX_VALUE}};
        for (int[] r : refused) {
            c.due("pay(" + r[0] + ", " + r[1] + ", " + r[2] + ", " + r[3] + ")",
                    x.pay(r[0], r[1], r[2], r[3]), PayChain.REFUSED);
        }
        c.same("after refused ones", Check.state(x), before);
        int[][] taken = {{1, -1, 0}, {999999, 9999, 3}, {1, 0, 1}, {1, 1, 2}};
        for (int[] t : taken) {
            c.due("pay(0, " + t[0] + ", " + t[1] + ", " + t[2] + ")", x.pay(0, t[0], t[1], t[2]),
                    PayChain.APPROVED);
        }
    }

    private static void dayAndSeen(Check c) {
        PayChain x = with(CardText.needed());
        x.setting(0, 999999);
        x.setting(1, 100);
        x.pay(0, 1, -1, 0);
        c.due("the END day", x.last(1), NEW);
        x.setting(1, 101);
        x.pay(0, 1, -1, 0);
        c.due("a day above END", x.last(1), NEW + 1);
        x.setting(2, 1);
        x.setting(6, 65535);
        x.pay(0, 1, -1, 0);
        c.due("SEEN is set by a reply", x.card(0, 3), 1);
        x.pay(0, 1, -1, 0);
        c.due("SEEN", x.last(1), 1);
        PayChain late = with(new CardText().with(90, 2).with(24356, 1, 2).with(140));
        late.setting(0, 999999);
        late.setting(1, 258);
        late.pay(0, 1, -1, 0);
        c.due("END is 258", late.last(1), NEW);
        late.setting(1, 259);
        late.pay(0, 1, -1, 0);
        c.due("above 258", late.last(1), NEW + 1);
    }

    private static void floor(Check c) {
        PayChain x = with(CardText.needed());
        x.setting(0, 500);
        x.pay(0, 499, -1, 0);
        c.due("below FLOOR", x.last(1), NEW);
        x.pay(0, 500, -1, 0);
        c.due("at FLOOR", x.last(1), NEW + FLOOR);
        x.pay(0, 501, -1, 0);
        c.due("above FLOOR", x.last(1), NEW + FLOOR);
    }

    private static void lowerAndUpper(Check c) {
        PayChain x = with(CardText.needed().with(40724, 1).with(40739, 2));
        x.setting(0, 999999);
        int[] flags = {NEW, NEW + 128, NEW + 128 + 256};
        for (int run = 0; run < 3; run++) {
            c.due("RUN", x.card(0, 2), run);
            x.pay(0, 1, -1, 0);
            c.due("flags with RUN " + run, x.last(1), flags[run]);
        }
        int[] alone = {40724, 40739};
        for (int tag : alone) {
            PayChain y = with(CardText.needed().with(tag, 0));
            y.setting(0, 999999);
            y.pay(0, 1, -1, 0);
            c.due("flags with " + tag + " alone", y.last(1), NEW);
        }
        PayChain zero = with(CardText.needed().with(40724, 0).with(40739, 0));
        zero.setting(0, 999999);
        zero.pay(0, 1, -1, 0);
        c.due("bounds of 0", zero.last(1), NEW + 128 + 256);
    }

    /** The only flag is 512; each mask has it or has all others. */
    private static int wishOf(int connected, int tag, int which, int mask) {
        CardText text = CardText.needed();
        if (tag != 0) {
            text.with(tag, mask / 256, mask % 256);
        }
        PayChain x = with(text);
        x.setting(0, 999999);
        x.setting(2, connected);
        if (which != 0) {
            x.setting(which, mask);
        }
        x.pay(0, 1, -1, 0);
        return x.last(2);
    }

    private static void wish(Check c) {
        c.due("no masks, not connected", wishOf(0, 0, 0, 0), 2);
        c.due("no masks, connected", wishOf(1, 0, 0, 0), 2);
        int[][] rows = {{40717, 4, 0, 2}, {40718, 5, 0, 0}, {40719, 6, 2, 1}};
        for (int[] r : rows) {
            for (int connected = 0; connected < 2; connected++) {
                int wish = r[2 + connected];
                c.due("card's mask " + r[0] + ", connected " + connected, wishOf(connected, r[0], 0, 512), wish);
                c.due("terminal's mask " + r[1] + ", connected " + connected, wishOf(connected, 0, r[1], 512), wish);
                c.due("other flags " + r[0], wishOf(connected, r[0], 0, 65535 - 512), 2);
                c.due("other flags " + r[1], wishOf(connected, 0, r[1], 65535 - 512), 2);
            }
        }
        PayChain x = with(CardText.needed().with(40718, 2, 0));
        x.setting(2, 1);
        x.setting(6, 65535);
        c.due("DENIAL before ONLINE", x.pay(0, 1, -1, 0) * 10 + x.last(2), 20);
    }

    private static void upperAsksTheHost(Check c) {
        PayChain x = with(CardText.needed().with(40739, 1));
        x.setting(2, 1);
        c.due("below UPPER", x.pay(0, 1, -1, 0), PayChain.APPROVED);
        c.due("first answer", x.last(3), 2);
        c.due("at UPPER", x.pay(0, 1, -1, 0), PayChain.APPROVED);
        c.due("WISH", x.last(2), 2);
        c.due("first answer at UPPER, also without LOWER", x.last(3), 1);
        c.due("CODE", x.last(7), 1);
        c.due("RUN", x.card(0, 2), 0);
        PayChain lowerOnly = with(CardText.needed().with(40724, 0));
        lowerOnly.pay(0, 1, -1, 0);
        c.due("LOWER alone does not ask", lowerOnly.last(3), 2);
    }

    private static void firstAnswerAndRun(Check c) {
        PayChain x = with(CardText.needed());
        x.setting(2, 1);
        c.due("WISH 2", x.pay(0, 5, -1, 3), PayChain.APPROVED);
        c.due("RUN grows", x.card(0, 2), 1);
        c.due("COUNTER grows", x.card(0, 1), 1);
        c.due("no second answer", x.last(5), -1);
        c.due("no second cryptogram", x.last(6), 0);
        c.due("no host", x.last(7) + x.balance(2), 1000);
        x.setting(5, 512);
        c.due("WISH 0", x.pay(0, 5, -1, 3), PayChain.DECLINED);
        c.due("first answer", x.last(3), 0);
        c.due("RUN stays", x.card(0, 2), 1);
        c.due("COUNTER grows all the same", x.card(0, 1), 2);
        c.due("cryptogram of the answer 0", x.last(4), Check.mac(7, 0, 0, 2));
        c.due("no second answer", x.last(5), -1);
        c.due("no reversal", x.count(2), 0);
    }

    private static void fullQueue(Check c) {
        PayChain x = with(CardText.needed());
        x.setting(2, 1);
        x.setting(6, 65535);
        for (int i = 1; i <= 6; i++) {
            c.due("a lost request", x.pay(0, 1, -1, 1), PayChain.APPROVED);
            c.due("queue", x.count(2), i);
        }
        String before = Check.state(x);
        c.due("with 6 reversals", x.pay(0, 1, -1, 0), PayChain.FULL);
        x.setting(2, 0);
        c.due("also if none would be queued", x.pay(0, 1, -1, 0), PayChain.FULL);
        c.due("REFUSED comes first", x.pay(0, 0, -1, 0), PayChain.REFUSED);
        c.due("REFUSED comes first", x.pay(1, 1, -1, 0), PayChain.REFUSED);
        c.same("after FULL", Check.state(x), before);
        x.setting(2, 1);
        x.send(0);
        c.due("with 5 again", x.pay(0, 1, -1, 0), PayChain.APPROVED);
        c.due("its number", x.last(8), 7);
    }
}
