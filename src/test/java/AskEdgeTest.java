/** Promises 10 and 12 to 17 at their edges: what is not there is REFUSED, and asking changes nothing. */
public final class AskEdgeTest {
    private static final int[] ODD = {Integer.MIN_VALUE, Integer.MIN_VALUE + 1, -257, -256, -4, -3, -2, -1, 0, 1, 2, 3,
        4, 5, 6, 7, 8, 9, 10, 59, 60, 90, 140, 255, 256, 24356, 65535, 65536, Integer.MAX_VALUE - 1, Integer.MAX_VALUE};

    public static void main(String[] args) {
        Check c = new Check();
        newObject(c);
        lastOfWhat(c);
        cardOfWhat(c);
        bytesOfAValue(c);
        tagsThatAreNone(c);
        insideOfATag(c);
        balances(c);
        counts(c);
        countsAtTheirEdges(c);
        askingChangesNothing(c);
        run512(c);
        c.end();
    }

    private static boolean isWithin(int number, int least, int largest) {
        return number >= least && number <= largest;
    }

    /** "makes an object in the state that the terms give" */
    private static void newObject(Check c) {
        PayChain x = new PayChain();
        for (int i : ODD) {
            c.due("last(" + i + ")", x.last(i), isWithin(i, 0, 8) ? 0 : PayChain.REFUSED);
            c.due("data(" + i + ")", x.data(i), PayChain.REFUSED);
            c.due("card(" + i + ", 0)", x.card(i, 0), PayChain.REFUSED);
            c.due("value(" + i + ", 90, 0)", x.value(i, 90, 0), PayChain.REFUSED);
            c.due("inside(" + i + ", 90)", x.inside(i, 90), PayChain.REFUSED);
            c.due("balance(" + i + ")", x.balance(i), isWithin(i, 0, 7) ? 0 : PayChain.REFUSED);
            c.due("queued(" + i + ")", x.queued(i), PayChain.REFUSED);
            c.due("count(" + i + ")", x.count(i), isWithin(i, 0, 4) ? 0 : PayChain.REFUSED);
        }
        c.due("place", x.place(), PayChain.REFUSED);
    }

    /** "REFUSED for others; before the first payment 0 for 0 .. 8." */
    private static void lastOfWhat(Check c) {
        PayChain x = CardText.online();
        c.due("a refused payment", x.pay(1, 1, -1, 0), PayChain.REFUSED);
        for (int what : ODD) {
            c.due("before: last(" + what + ")", x.last(what), isWithin(what, 0, 8) ? 0 : PayChain.REFUSED);
        }
        x.pay(0, 10, -1, 0);
        int[] due = {1, 512 + 64, 1, 1, Check.mac(7, 1, 0, 1), 2, Check.mac(7, 2, 0, 1), 1, 1};
        for (int what : ODD) {
            c.due("last(" + what + ")", x.last(what), isWithin(what, 0, 8) ? due[what] : PayChain.REFUSED);
        }
    }

    /** "Of a card that is there: .. REFUSED for others." */
    private static void cardOfWhat(Check c) {
        int[] due = {3, 0, 0, 0, 3, 2};
        for (int card : ODD) {
            PayChain x = new PayChain();
            CardText.needed().make(x, 2, 7, 1);
            for (int what : ODD) {
                boolean isThere = card == 2 && isWithin(what, 0, 5);
                c.due("card(" + card + ", " + what + ")", x.card(card, what), isThere ? due[what] : PayChain.REFUSED);
            }
        }
    }

    /** "Byte i (from 0) of the VALUE .. of a card that is there; REFUSED if there is none." */
    private static void bytesOfAValue(Check c) {
        int[] sizes = {0, 1, 2, 44};
        for (int size : sizes) {
            int[] value = new int[size];
            for (int i = 0; i < size; i++) {
                value[i] = 255 - i;
            }
            PayChain x = CardText.needed().with(5, value).with(6, 9).asCard();
            for (int i : ODD) {
                c.due("value(0, 5, " + i + ") of " + size, x.value(0, 5, i),
                        isWithin(i, 0, size - 1) ? 255 - i : PayChain.REFUSED);
            }
            c.due("the last byte", x.value(0, 5, size - 1), size == 0 ? PayChain.REFUSED : 256 - size);
            c.due("the next object is not read", x.value(0, 5, size), PayChain.REFUSED);
            for (int card : ODD) {
                c.due("value(" + card + ", 6, 0)", x.value(card, 6, 0), card == 0 ? 9 : PayChain.REFUSED);
                c.due("inside(" + card + ", 6)", x.inside(card, 6), card == 0 ? 0 : PayChain.REFUSED);
            }
        }
    }

    /** "the FIRST object of the tag": numbers that no object of the card has */
    private static void tagsThatAreNone(Check c) {
        PayChain x = CardText.needed().with(31 * 256, 1).with(97, 5, 0).asCard();
        int[] tags = {Integer.MIN_VALUE, -1, 0, 2, 4, 31, 36, 89, 91, 95, 98, 100, 139, 141, 256 + 90, 24355, 24357,
            7935, 7937, 65536 + 90, 65536 + 24356, Integer.MAX_VALUE};
        for (int tag : tags) {
            c.due("value(0, " + tag + ", 0)", x.value(0, tag, 0), PayChain.REFUSED);
            c.due("inside(0, " + tag + ")", x.inside(0, tag), PayChain.REFUSED);
        }
        c.due("one that is there", x.value(0, 7936, 0), 1);
    }

    /** "How many objects are directly inside .., 0 if it has not the bit 32; REFUSED if there is none." */
    private static void insideOfATag(Check c) {
        for (int inner = 0; inner <= 12; inner++) {
            CardText objects = new CardText();
            for (int i = 0; i < inner; i++) {
                objects.with(6);
            }
            PayChain x = CardText.needed().around(97, objects).asCard();
            c.due("inside(0, 97) with " + inner, x.inside(0, 97), inner);
            PayChain plain = CardText.needed().around(65, objects).asCard();
            c.due("inside(0, 65) with " + inner + " bytes twice", plain.inside(0, 65), 0);
        }
        CardText deep = new CardText().around(98, new CardText().around(99, new CardText().with(6).with(7).with(8)));
        PayChain x = CardText.needed().around(97, deep).asCard();
        c.due("only directly: 97", x.inside(0, 97), 1);
        c.due("only directly: 98", x.inside(0, 98), 1);
        c.due("only directly: 99", x.inside(0, 99), 3);
    }

    /** "The balance of the account; REFUSED if there is no such." */
    private static void balances(Check c) {
        PayChain x = new PayChain();
        for (int account = 0; account < 8; account++) {
            x.account(account, 9999999 - account, 7);
        }
        for (int account : ODD) {
            c.due("balance(" + account + ")", x.balance(account),
                    isWithin(account, 0, 7) ? 9999999 - account : PayChain.REFUSED);
        }
    }

    /** "else REFUSED" */
    private static void counts(Check c) {
        PayChain x = CardText.online();
        x.pay(0, 10, -1, 0);
        x.pay(0, 10, -1, 2);
        x.pay(0, 10, -1, 3);
        x.feed(1);
        int[] due = {1, 3, 2, 2, 3};
        for (int what : ODD) {
            c.due("count(" + what + ")", x.count(what), isWithin(what, 0, 4) ? due[what] : PayChain.REFUSED);
        }
    }

    /** "payments (1), .. payments APPROVED (3), those that got CODE 1 and were not reversed (4)" */
    private static void countsAtTheirEdges(Check c) {
        PayChain x = CardText.online();
        x.setting(5, 65535);
        x.pay(0, 10, -1, 0);
        c.due("declined: a payment, not approved", x.count(1) * 10 + x.count(3), 10);
        x.setting(5, 0);
        x.pay(0, 10, -1, 3);
        c.due("removed: a payment, not approved", x.count(1) * 10 + x.count(3), 20);
        c.due("but it got CODE 1", x.count(4), 1);
        x.pay(0, 1000000, -1, 0);
        x.pay(3, 10, -1, 0);
        c.due("refused: no payment", x.count(1) * 10 + x.count(3), 20);
        CardText.needed().make(x, 0, 7, 1);
        x.account(2, 1000, 7);
        c.due("a new card and a new account leave the counts", x.count(1) * 100 + x.count(3) * 10 + x.count(4), 201);
        x.pay(0, 10, -1, 2);
        c.due("approved without a reply", x.count(1) * 100 + x.count(3) * 10 + x.count(4), 312);
        x.send(0);
        x.send(0);
        c.due("reversed ones stay approved", x.count(1) * 100 + x.count(3) * 10 + x.count(4), 310);
    }

    /** What only asks leaves all as it was. */
    private static void askingChangesNothing(Check c) {
        PayChain x = CardText.online(new CardText().with(140, 159, 2, 2).addAll(CardText.needed()), 7, 7, 1000);
        x.pay(0, 10, -1, 2);
        x.feed(5);
        String before = Check.state(x);
        for (int i : new int[] {Integer.MIN_VALUE, -1, 0, 4, 9, 60, Integer.MAX_VALUE}) {
            x.last(i);
            x.data(i);
            x.card(i, i);
            x.card(0, i);
            x.value(0, i, 0);
            x.value(0, 90, i);
            x.inside(i, i);
            x.balance(i);
            x.queued(i);
            x.count(i);
        }
        x.place();
        c.same("after asking", Check.state(x), before);
    }

    /** "An object is used for at most 512 calls": the last of them is as good as the first. */
    private static void run512(Check c) {
        PayChain x = CardText.online();
        int calls = 4 + CardText.needed().length() + 1;
        int payments = 0;
        while (calls < 511) {
            payments++;
            calls++;
            c.due("payment " + payments, x.pay(0, 1, -1, 0), PayChain.APPROVED);
        }
        c.due("the 512th call", x.balance(2), 1000 - payments);
    }
}
