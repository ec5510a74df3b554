/** Promises 9, 16 and 18 at their edges, and step 10 of a payment: each method has the sentence that it tests. */
public final class QueueEdgeTest {
    public static void main(String[] args) {
        Check c = new Check();
        sixReversals(c);
        fullForEveryPayment(c);
        refusedBeforeFull(c);
        placesOutside(c);
        sendArguments(c);
        notConnected(c);
        noneThere(c);
        lostChangesNothing(c);
        replyLostAgainAndAgain(c);
        onlyCodeOneIsGivenBack(c);
        firstOfTheQueue(c);
        givenBackOverTheLargest(c);
        accountInBetween(c);
        lastStaysAfterAReversal(c);
        manyThroughTheQueue(c);
        whichGoToTheQueue(c);
        c.end();
    }

    private static PayChain withSix() {
        PayChain x = CardText.online();
        for (int i = 1; i <= 6; i++) {
            x.pay(0, i, -1, 2);
        }
        return x;
    }

    /** "The queue holds at most 6 reversals." "The queue has 6 reversals: FULL." */
    private static void sixReversals(Check c) {
        for (int fate = 1; fate <= 3; fate++) {
            PayChain x = CardText.online();
            for (int i = 1; i <= 6; i++) {
                c.due("payment " + i + ", fate " + fate, x.pay(0, 1, -1, fate),
                        fate == 3 ? PayChain.REMOVED : PayChain.APPROVED);
                c.due("reversals", x.count(2), i);
                c.due("the last of them", x.queued(i - 1), i);
            }
            int same = fate;
            c.unchanged("payment 7, fate " + fate, x, () -> x.pay(0, 1, -1, same), PayChain.FULL);
            c.due("send", x.send(0), 1);
            c.due("with 5 again", x.pay(0, 1, -1, 0), PayChain.APPROVED);
            c.due("its number", x.last(8), 7);
        }
    }

    /** "FULL" is answered whatever would become of the payment, and as long as there are 6. */
    private static void fullForEveryPayment(Check c) {
        PayChain x = withSix();
        CardText.needed().with(40718, 255, 255).make(x, 1, 7, 1);
        for (int fate = 0; fate <= 3; fate++) {
            c.due("asked, fate " + fate, x.pay(0, 1, -1, fate), PayChain.FULL);
            c.due("denied, fate " + fate, x.pay(1, 1, -1, fate), PayChain.FULL);
        }
        c.due("send(1)", x.send(1), 0);
        c.due("after send(1)", x.pay(0, 1, -1, 0), PayChain.FULL);
        c.due("send(2)", x.send(2), 0);
        c.due("after send(2)", x.pay(0, 1, -1, 0), PayChain.FULL);
        x.setting(2, 0);
        c.due("not connected", x.pay(0, 1, -1, 0), PayChain.FULL);
        c.due("COUNTER", x.card(0, 1) * 10 + x.card(1, 1), 60);
        c.due("payments", x.count(1), 6);
    }

    /** "(else REFUSED). The queue has 6 reversals: FULL." */
    private static void refusedBeforeFull(Check c) {
        PayChain x = withSix();
        int[][] rows = {{-1, 1, 1, 0}, {1, 1, 1, 0}, {4, 1, 1, 0}, {0, 0, 1, 0}, {0, 1000000, 1, 0}, {0, 1, -2, 0},
            {0, 1, 10000, 0}, {0, 1, 1, -1}, {0, 1, 1, 4}};
        for (int[] r : rows) {
            c.due("pay(" + r[0] + ", " + r[1] + ", " + r[2] + ", " + r[3] + ") with 6",
                    x.pay(r[0], r[1], r[2], r[3]), PayChain.REFUSED);
        }
    }

    /** "Payment's number at place i (0 the first) of the queue; REFUSED if there is none." */
    private static void placesOutside(Check c) {
        PayChain x = CardText.online();
        for (int size = 0; size <= 6; size++) {
            int[] places = {Integer.MIN_VALUE, -2, -1, size, size + 1, 6, 7, Integer.MAX_VALUE};
            for (int i : places) {
                if (i < 0 || i >= size) {
                    c.due("queued(" + i + ") of " + size, x.queued(i), PayChain.REFUSED);
                }
            }
            for (int i = 0; i < size; i++) {
                c.due("queued(" + i + ") of " + size, x.queued(i), i + 1);
            }
            x.pay(0, 1, -1, 1);
        }
    }

    /** "fate 0 .. 2 (else REFUSED)" */
    private static void sendArguments(Check c) {
        int[] fates = {Integer.MIN_VALUE, -2, -1, 3, 4, Integer.MAX_VALUE};
        for (int fate : fates) {
            PayChain x = CardText.online();
            x.pay(0, 10, -1, 2);
            c.unchanged("send(" + fate + ")", x, () -> x.send(fate), PayChain.REFUSED);
            c.due("with none there", CardText.online().send(fate), PayChain.REFUSED);
        }
        int[] answers = {1, 0, 0};
        for (int fate = 0; fate <= 2; fate++) {
            PayChain x = CardText.online();
            x.pay(0, 10, -1, 2);
            c.due("send(" + fate + ")", x.send(fate), answers[fate]);
        }
    }

    /** "not connected or none there: REFUSED" */
    private static void notConnected(Check c) {
        for (int fate = 0; fate <= 2; fate++) {
            PayChain x = CardText.online();
            x.pay(0, 10, -1, 2);
            x.setting(2, 0);
            int same = fate;
            c.unchanged("send(" + fate + "), not connected", x, () -> x.send(same), PayChain.REFUSED);
            x.setting(2, 999999);
            c.due("connected again", x.send(0), 1);
            c.due("nothing was sent before", x.balance(2), 1000);
        }
    }

    /** "none there: REFUSED" */
    private static void noneThere(Check c) {
        for (int fate = 0; fate <= 2; fate++) {
            c.due("of a new object", new PayChain().send(fate), PayChain.REFUSED);
            PayChain x = CardText.online();
            x.pay(0, 10, -1, 0);
            int same = fate;
            c.unchanged("send(" + fate + ") of an empty queue", x, () -> x.send(same), PayChain.REFUSED);
            x.pay(0, 10, -1, 2);
            x.send(0);
            c.due("send(" + fate + ") after the last has left", x.send(fate), PayChain.REFUSED);
        }
    }

    /** "fate 1: it is lost; nothing changes: 0." */
    private static void lostChangesNothing(Check c) {
        PayChain x = CardText.online();
        x.pay(0, 10, -1, 2);
        x.pay(0, 20, -1, 3);
        c.unchanged("send(1)", x, () -> x.send(1), 0);
        c.due("send(1) again", x.send(1), 0);
        c.due("balance", x.balance(2), 970);
        c.due("count(4)", x.count(4), 2);
    }

    /** "if that payment got CODE 1 and was not reversed, it is reversed" and "the reversal stays" */
    private static void replyLostAgainAndAgain(Check c) {
        PayChain x = CardText.online();
        x.pay(0, 10, -1, 2);
        x.pay(0, 20, -1, 2);
        for (int i = 0; i < 4; i++) {
            c.due("send(2)", x.send(2), 0);
            c.due("given back once", x.balance(2), 980);
            c.due("it stays", x.queued(0) * 10 + x.count(2), 12);
            c.due("count(4)", x.count(4), 1);
        }
        c.due("send(0)", x.send(0), 1);
        c.due("not given back again", x.balance(2), 980);
        c.due("the next is there", x.queued(0) * 10 + x.count(2), 21);
        c.due("send(0)", x.send(0), 1);
        c.due("that is given back", x.balance(2), 1000);
        c.due("count(4)", x.count(4), 0);
    }

    /** "if that payment got CODE 1": with none, 2, 3 or 4 nothing is given back. */
    private static void onlyCodeOneIsGivenBack(Check c) {
        PayChain lost = CardText.online();
        lost.pay(0, 10, -1, 1);
        sendAll(c, "no CODE", lost, 1000);
        PayChain key = CardText.online(CardText.needed(), 8, 7, 1000);
        key.pay(0, 10, -1, 2);
        sendAll(c, "CODE " + key.last(7), key, 1000);
        PayChain old = CardText.online();
        CardText.needed().make(old, 1, 7, 1);
        old.pay(0, 10, -1, 0);
        old.pay(1, 10, -1, 2);
        sendAll(c, "CODE " + old.last(7), old, 990);
        PayChain poor = CardText.online(CardText.needed(), 7, 7, 9);
        poor.pay(0, 10, -1, 2);
        sendAll(c, "CODE " + poor.last(7), poor, 9);
    }

    private static void sendAll(Check c, String what, PayChain x, int balance) {
        int before = x.count(4);
        c.due(what + ": reversals", x.count(2), 1);
        c.due(what + ": send(2)", x.send(2), 0);
        c.due(what + ": send(0)", x.send(0), 1);
        c.due(what + ": balance", x.balance(2), balance);
        c.due(what + ": count(4)", x.count(4), before);
    }

    /** "Sends the first reversal of the queue"; "a REVERSAL .. goes to the end of the queue" */
    private static void firstOfTheQueue(Check c) {
        PayChain x = withSix();
        long balance = 1000 - 21;
        for (int i = 1; i <= 6; i++) {
            c.due("first", x.queued(0), i);
            c.due("send(0)", x.send(0), 1);
            balance += i;
            c.due("balance after " + i, x.balance(2), balance);
            c.due("reversals", x.count(2), 6 - i);
            c.due("booked and not reversed", x.count(4), 6 - i);
        }
        c.due("none is left", x.send(0), PayChain.REFUSED);
    }

    /** "its amount is added to the balance of its account": beyond the largest that account takes, too */
    private static void givenBackOverTheLargest(Check c) {
        PayChain x = CardText.online(CardText.needed(), 7, 7, 9999999);
        for (int i = 0; i < 6; i++) {
            x.pay(0, 999999, -1, 3);
        }
        c.due("booked", x.balance(2), 9999999 - 6 * 999999);
        x.account(2, 9999999, 7);
        for (int i = 1; i <= 6; i++) {
            x.send(0);
            c.due("given back " + i, x.balance(2), 9999999 + i * 999999);
        }
        CardText.needed().make(x, 1, 7, 1);
        c.due("it can be paid with", x.pay(1, 999999, -1, 0), PayChain.APPROVED);
        c.due("balance", x.balance(2), 9999999 + 5 * 999999);
    }

    /** "(Also if account was called in between.)" */
    private static void accountInBetween(Check c) {
        PayChain x = withSix();
        x.account(2, 0, -5);
        c.due("count(4) stays", x.count(4), 6);
        c.due("the queue stays", x.count(2), 6);
        c.due("send(2)", x.send(2), 0);
        c.due("added to the new balance, whatever the key", x.balance(2), 1);
        x.account(2, 100, 7);
        c.due("send(0)", x.send(0), 1);
        c.due("but once", x.balance(2), 100);
        c.due("send(0)", x.send(0), 1);
        c.due("the second one", x.balance(2), 102);
        x.account(3, 50, 7);
        CardText other = new CardText().with(90, 3).with(24356, 0, 1).with(140);
        other.make(x, 0, 7, 1);
        c.due("send(0)", x.send(0), 1);
        c.due("to the account of the payment", x.balance(2), 105);
        c.due("not to that of the card that took its place", x.balance(3), 50);
    }

    /** A reversal gives back the amount, and leaves LAST, the card and the last payment as they are. */
    private static void lastStaysAfterAReversal(Check c) {
        PayChain x = CardText.online();
        CardText.needed().make(x, 1, 7, 1);
        x.pay(0, 10, -1, 2);
        int[] before = new int[9];
        for (int what = 0; what < 9; what++) {
            before[what] = x.last(what);
        }
        c.due("RUN, SEEN", x.card(0, 2) * 10 + x.card(0, 3), 10);
        x.send(0);
        for (int what = 0; what < 9; what++) {
            c.due("last(" + what + ")", x.last(what), before[what]);
        }
        c.due("RUN, SEEN", x.card(0, 2) * 10 + x.card(0, 3), 10);
        c.due("payments, approved", x.count(1) * 10 + x.count(3), 11);
        x.pay(1, 10, -1, 0);
        c.due("an equal COUNTER is still too old", x.last(7), 3);
    }

    /** More reversals in all than the queue holds at once. */
    private static void manyThroughTheQueue(Check c) {
        PayChain x = CardText.online();
        for (int i = 1; i <= 100; i++) {
            x.pay(0, 1 + i % 3, -1, 2);
            if (i > 4) {
                c.due("first", x.queued(0), i - 4);
                c.due("send(0)", x.send(0), 1);
            }
        }
        c.due("reversals", x.count(2), 4);
        c.due("booked and not reversed", x.count(4), 4);
        c.due("balance", x.balance(2), 1000 - (2 + 3 + 1 + 2));
    }

    /**
     * "without a reply that arrived (FATE 1 or 2) the reversal goes to the queue, also if the outcome is APPROVED; with
     * one that arrived it does not if its CODE is not 1 or the outcome is APPROVED"
     */
    private static void whichGoToTheQueue(Check c) {
        for (int code = 1; code <= 4; code++) {
            for (int fate = 0; fate <= 3; fate++) {
                for (int mask = 0; mask <= 64; mask += 64) {
                    PayChain x = CardText.online();
                    x.pay(0, 10, -1, 0);
                    CardText.needed().make(x, 1, code == 2 ? 8 : 7, 1);
                    if (code != 3) {
                        x.account(2, code == 4 ? 9 : 1000, 7);
                    }
                    x.setting(4, mask);
                    x.pay(1, 10, -1, fate);
                    String what = "CODE " + code + ", fate " + fate + ", DEFAULT " + mask;
                    boolean isLost = fate == 1 || fate == 2;
                    c.due(what, x.last(7), fate == 1 ? 0 : code);
                    if (isLost) {
                        c.due(what + ": outcome", x.last(0), mask == 0 ? PayChain.APPROVED : PayChain.DECLINED);
                    }
                    boolean isQueued = isLost || fate == 3 && code == 1;
                    c.due(what + ": queued(0)", x.queued(0), isQueued ? 2 : PayChain.REFUSED);
                }
            }
        }
    }
}
