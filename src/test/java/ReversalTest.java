/** Promise 18, and step 10 of a payment: which payments go to the queue of reversals. */
public final class ReversalTest {
    public static void main(String[] args) {
        Check c = new Check();
        // rows: fate, balance, account's key, terminal's DEFAULT; outcome, CODE, reversals
        int[][] rows = {
            {0, 1000, 7, 0, PayChain.APPROVED, 1, 0},
            {0, 5, 7, 0, PayChain.DECLINED, 4, 0},
            {0, 1000, 8, 0, PayChain.DECLINED, 2, 0},
            {1, 1000, 7, 0, PayChain.APPROVED, 0, 1},
            {1, 1000, 7, 65535, PayChain.DECLINED, 0, 1},
            {1, 1000, 8, 0, PayChain.APPROVED, 0, 1},
            {2, 1000, 7, 0, PayChain.APPROVED, 1, 1},
            {2, 1000, 7, 65535, PayChain.DECLINED, 1, 1},
            {2, 5, 7, 0, PayChain.APPROVED, 4, 1},
            {2, 5, 7, 65535, PayChain.DECLINED, 4, 1},
            {2, 1000, 8, 0, PayChain.APPROVED, 2, 1},
            {3, 1000, 7, 0, PayChain.REMOVED, 1, 1},
            {3, 5, 7, 0, PayChain.REMOVED, 4, 0},
            {3, 1000, 8, 0, PayChain.REMOVED, 2, 0},
        };
        for (int[] r : rows) {
            connected(c, r);
        }
        notConnected(c);
        notAsked(c);
        oldCounter(c);
        c.end();
    }

    private static void connected(Check c, int[] r) {
        PayChain x = CardText.online(CardText.needed(), 7, r[2], r[1]);
        x.setting(4, r[3]);
        String what = "fate " + r[0] + ", balance " + r[1] + ", key " + r[2] + ", DEFAULT " + r[3];
        c.due(what, x.pay(0, 10, -1, r[0]), r[4]);
        c.due(what + ": CODE", x.last(7), r[5]);
        c.due(what + ": reversals", x.count(2), r[6]);
        c.due(what + ": queued(0)", x.queued(0), r[6] == 1 ? 1 : PayChain.REFUSED);
    }

    /** A card at UPPER asks the host also where the terminal is not connected. */
    private static void notConnected(Check c) {
        for (int fate = 0; fate < 4; fate++) {
            PayChain x = new PayChain();
            x.account(2, 1000, 7);
            CardText.needed().with(40739, 0).make(x, 0, 7, 1);
            int outcome = fate == 3 ? PayChain.REMOVED : PayChain.DECLINED;
            c.due("not connected, fate " + fate, x.pay(0, 10, -1, fate), outcome);
            c.due("first answer", x.last(3), 1);
            c.due("no reversal", x.count(2), 0);
        }
    }

    private static void notAsked(Check c) {
        for (int fate = 0; fate < 4; fate++) {
            PayChain x = new PayChain();
            x.setting(2, 1);
            CardText.needed().make(x, 0, 7, 1);
            c.due("yes, fate " + fate, x.pay(0, 10, -1, fate), PayChain.APPROVED);
            x.setting(5, 65535);
            c.due("no, fate " + fate, x.pay(0, 10, -1, fate), PayChain.DECLINED);
            c.due("no reversal", x.count(2), 0);
        }
    }

    private static void oldCounter(Check c) {
        PayChain x = CardText.online();
        CardText.needed().make(x, 1, 7, 1);
        CardText.needed().make(x, 2, 7, 1);
        x.pay(0, 10, -1, 0);
        c.due("CODE 3, out", x.pay(1, 10, -1, 3) * 10 + x.last(7), 33);
        c.due("no reversal", x.count(2), 0);
        c.due("CODE 3, the reply lost", x.pay(2, 10, -1, 2) * 10 + x.last(7), 13);
        c.due("a reversal", x.count(2), 1);
        c.due("send", x.send(0), 1);
        c.due("nothing to give back", x.balance(2), 990);
    }
}
