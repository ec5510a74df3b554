/** Promises 9 and 16: send and queued. */
public final class SendTest {
    public static void main(String[] args) {
        Check c = new Check();
        refused(c);
        fates(c);
        order(c);
        onlyBooked(c);
        accountInBetween(c);
        cardMadeAnew(c);
        c.end();
    }

    private static void refused(Check c) {
        PayChain x = CardText.online();
        for (int fate = 0; fate < 3; fate++) {
            c.due("send(" + fate + ") of nothing", x.send(fate), PayChain.REFUSED);
        }
        x.pay(0, 10, -1, 2);
        String before = Check.state(x);
        int[] none = {-1, 3, Integer.MIN_VALUE, Integer.MAX_VALUE};
        for (int fate : none) {
            c.due("send(" + fate + ")", x.send(fate), PayChain.REFUSED);
        }
        x.setting(2, 0);
        for (int fate = 0; fate < 3; fate++) {
            c.due("send(" + fate + "), not connected", x.send(fate), PayChain.REFUSED);
        }
        c.same("after refused ones", Check.state(x), before);
    }

    private static void fates(Check c) {
        PayChain x = CardText.online();
        x.pay(0, 10, -1, 2);
        String before = Check.state(x);
        c.due("send(1)", x.send(1), 0);
        c.same("lost: nothing changes", Check.state(x), before);
        c.due("send(2)", x.send(2), 0);
        c.due("reversed", x.balance(2), 1000);
        c.due("it stays", x.queued(0), 1);
        c.due("no longer counted", x.count(4), 0);
        c.due("send(2) again", x.send(2), 0);
        c.due("not reversed twice", x.balance(2), 1000);
        c.due("send(0)", x.send(0), 1);
        c.due("not reversed twice", x.balance(2), 1000);
        c.due("it left", x.queued(0), PayChain.REFUSED);
        c.due("send(0)", x.send(0), PayChain.REFUSED);
        x.pay(0, 25, -1, 2);
        c.due("booked", x.balance(2), 975);
        c.due("send(0) at once", x.send(0), 1);
        c.due("reversed", x.balance(2), 1000);
        c.due("CODE of the last payment stays", x.last(7), 1);
        c.due("and its outcome", x.last(0), PayChain.APPROVED);
        c.due("it still counts as approved", x.count(3), 2);
    }

    private static void order(Check c) {
        PayChain x = CardText.online();
        x.pay(0, 1, -1, 2);
        x.pay(0, 2, -1, 0);
        for (int i = 0; i < 4; i++) {
            x.pay(0, 10 * (i + 1), -1, 2);
        }
        int[] numbers = {1, 3, 4, 5, 6};
        for (int i = 0; i < numbers.length; i++) {
            c.due("queued(" + i + ")", x.queued(i), numbers[i]);
        }
        int[] none = {-1, 5, 6, Integer.MIN_VALUE, Integer.MAX_VALUE};
        for (int i : none) {
            c.due("queued(" + i + ")", x.queued(i), PayChain.REFUSED);
        }
        c.due("balance", x.balance(2), 1000 - 103);
        x.send(0);
        c.due("the first one went", x.balance(2), 1000 - 102);
        c.due("the next is first", x.queued(0), 3);
        x.pay(0, 5, -1, 1);
        c.due("a new one goes to the end", x.queued(4), 7);
        x.send(0);
        c.due("the third payment", x.balance(2), 1000 - 92);
        x.send(0);
        c.due("the fourth payment", x.balance(2), 1000 - 72);
        c.due("reversals", x.count(2), 3);
    }

    private static void onlyBooked(Check c) {
        PayChain x = CardText.online();
        x.pay(0, 10, -1, 1);
        x.pay(0, 5000, -1, 2);
        c.due("CODE 4", x.last(7), 4);
        c.due("reversals", x.count(2), 2);
        c.due("of a lost request", x.send(0), 1);
        c.due("of CODE 4", x.send(0), 1);
        c.due("balance", x.balance(2), 1000);
        c.due("count(4)", x.count(4), 0);
    }

    private static void accountInBetween(Check c) {
        PayChain x = CardText.online();
        x.pay(0, 10, -1, 2);
        x.account(2, 50, 99);
        c.due("send(0)", x.send(0), 1);
        c.due("added to the new balance", x.balance(2), 60);
        c.due("count(4)", x.count(4), 0);
        x.account(2, 1000, 7);
        CardText.needed().make(x, 0, 7, 1);
        x.pay(0, 10, -1, 2);
        x.send(2);
        x.account(2, 50, 7);
        x.send(0);
        c.due("not twice, though account was called", x.balance(2), 50);
    }

    private static void cardMadeAnew(Check c) {
        PayChain x = CardText.online();
        x.pay(0, 10, -1, 3);
        new CardText().with(90, 5).with(24356, 0, 1).with(140).make(x, 0, 7, 1);
        x.send(0);
        c.due("the account of the payment", x.balance(2), 1000);
        c.due("not that of the new card", x.balance(5), 0);
    }
}
