/** Promise 4: make. What make and place say of a bad or unfit text is in PlaceTest. */
public final class MakeTest {
    public static void main(String[] args) {
        Check c = new Check();
        arguments(c);
        order(c);
        objectsAreCounted(c);
        newInPlaceOfOld(c);
        madeAgainAndAgain(c);
        failureLeavesAll(c);
        cardsStandApart(c);
        c.end();
    }

    private static void arguments(Check c) {
        int[][] refused = {{-1, 0}, {4, 0}, {0, -1}, {0, 10000},
            {Integer.MIN_VALUE, 0}, {Integer.MAX_VALUE, 0}, {0, Integer.MIN_VALUE}, {0, Integer.MAX_VALUE}};
        for (int[] r : refused) {
            PayChain x = CardText.needed().to(new PayChain());
            c.due("make(" + r[0] + ", 0, " + r[1] + ")", x.make(r[0], 0, r[1]), PayChain.REFUSED);
            c.due("the text stays", x.count(0), CardText.needed().length());
        }
        int[][] taken = {{0, 0}, {3, 9999}, {1, 5}, {2, 1}};
        for (int[] t : taken) {
            PayChain x = new PayChain();
            c.due("make(" + t[0] + ", MIN, " + t[1] + ")",
                    CardText.needed().make(x, t[0], Integer.MIN_VALUE, t[1]), 3);
            c.due("the text is empty", x.count(0), 0);
            c.due("the card is there", x.card(t[0], 4), 3);
        }
    }

    /** REFUSED before BAD before FULL before UNFIT. */
    private static void order(Check c) {
        PayChain x = new PayChain();
        CardText seventeen = new CardText();
        for (int i = 0; i < 17; i++) {
            seventeen.with(5);
        }
        c.due("17 objects, unfit", seventeen.make(x, 0, 0, 0), PayChain.FULL);
        c.due("17 objects, refused", seventeen.make(x, 4, 0, 0), PayChain.REFUSED);
        seventeen.raw(5);
        c.due("17 objects, the next one bad", seventeen.make(x, 0, 0, 0), PayChain.BAD);
        c.due("bad, refused", seventeen.make(x, 0, 0, 10000), PayChain.REFUSED);
        CardText thirty = new CardText();
        for (int i = 0; i < 30; i++) {
            thirty.with(i % 2 == 0 ? 5 : 32);
        }
        c.due("30 objects", thirty.make(x, 0, 0, 0), PayChain.FULL);
        c.due("an empty text", new CardText().make(x, 0, 0, 0), PayChain.UNFIT);
    }

    private static void objectsAreCounted(Check c) {
        CardText sixteen = CardText.needed();
        for (int i = 3; i < 16; i++) {
            sixteen.with(5);
        }
        PayChain x = new PayChain();
        c.due("16 objects", sixteen.make(x, 0, 0, 0), 16);
        c.due("17 objects that would fit", sixteen.with(5).make(x, 1, 0, 0), PayChain.FULL);
        CardText nested = new CardText().around(112, new CardText().around(97, CardText.needed()).with(5));
        c.due("inner ones count too", nested.make(x, 2, 0, 0), 6);
        c.due("the card's account is found inside", x.card(2, 5), 2);
    }

    private static void newInPlaceOfOld(Check c) {
        PayChain x = new PayChain();
        x.setting(3, 1);
        x.setting(2, 1);
        x.account(2, 1000, 7);
        CardText withPin = CardText.needed().with(142, 0, 0, 65, 0, 31, 0);
        c.due("make", withPin.make(x, 0, 7, 1), 4);
        x.pay(0, 10, 2, 0);
        x.setting(6, 65535);
        x.pay(0, 10, 2, 0);
        c.due("TRIES", x.card(0, 0), 1);
        c.due("COUNTER", x.card(0, 1), 2);
        c.due("SEEN", x.card(0, 3), 1);
        x.setting(6, 0);
        x.pay(0, 10, 1, 0);
        c.due("RUN", x.card(0, 2), 1);
        x.pay(0, 10, 2, 0);
        c.due("make again", new CardText().with(90, 5).with(24356, 0, 9).with(140).make(x, 0, 7, 1), 3);
        int[] fresh = {3, 0, 0, 0, 3, 5};
        for (int what = 0; what < 6; what++) {
            c.due("card(0, " + what + ")", x.card(0, what), fresh[what]);
        }
        c.due("the old rules are gone", x.value(0, 142, 0), PayChain.REFUSED);
        x.pay(0, 10, 2, 0);
        c.due("nor do they count", x.last(1), 512 + 64);
        c.due("the new END", x.value(0, 24356, 1), 9);
    }

    /** Nothing of any earlier card of the place may shine through. */
    private static void madeAgainAndAgain(Check c) {
        PayChain x = new PayChain();
        x.setting(2, 1);
        x.setting(3, 1);
        CardText rich = CardText.needed().with(142, 0, 0, 65, 0, 31, 0).around(97, new CardText().with(5).with(6));
        CardText poor = CardText.needed();
        CardText hollow = CardText.needed().with(6).with(97);
        CardText[] texts = {rich, poor, hollow, rich, hollow, poor, rich, rich, poor, poor, hollow};
        for (CardText text : texts) {
            int objects = text == rich ? 7 : text == hollow ? 5 : 3;
            c.due("make", text.make(x, 0, 7, 1), objects);
            int[] fresh = {3, 0, 0, 0, objects, 2};
            for (int what = 0; what < 6; what++) {
                c.due("card(0, " + what + ")", x.card(0, what), fresh[what]);
            }
            c.due("142", x.value(0, 142, 2), text == rich ? 65 : PayChain.REFUSED);
            c.due("97", x.inside(0, 97), text == rich ? 2 : text == hollow ? 0 : PayChain.REFUSED);
            x.account(2, 1000, 7);
            x.setting(6, 65535);
            x.pay(0, 10, 2, 0);
            x.setting(6, 0);
            x.pay(0, 10, 2, 0);
            c.due("RUN, SEEN", x.card(0, 2) * 10 + x.card(0, 3), 11);
        }
    }

    private static void failureLeavesAll(Check c) {
        CardText[] failing = {new CardText().raw(90), new CardText().with(90, 3),
            new CardText().with(90, 3).with(24356, 0, 1).with(140).with(40739, 9, 9)};
        for (CardText text : failing) {
            PayChain x = new PayChain();
            x.account(2, 1000, 7);
            CardText.needed().with(40739, 3).make(x, 0, 7, 1);
            x.pay(0, 10, 1, 0);
            text.to(x);
            String before = Check.state(x);
            c.due("a failing make", x.make(0, 8, 2) < 0 ? 1 : 0, 1);
            c.same("after it", Check.state(x), before);
            x.wipe();
            c.due("the old card pays on", x.pay(0, 10, 1, 0), PayChain.APPROVED);
            c.due("with its old key", x.last(4), Check.mac(7, 2, 0, 2));
        }
    }

    private static void cardsStandApart(Check c) {
        PayChain x = new PayChain();
        for (int card = 0; card < 4; card++) {
            new CardText().with(90, card + 1).with(24356, 0, card).with(140).make(x, card, card, card);
        }
        new CardText().with(90, 7).with(24356, 0, 77).with(140).make(x, 1, 0, 0);
        x.pay(3, 5, -1, 0);
        int[] accounts = {1, 7, 3, 4};
        int[] ends = {0, 77, 2, 3};
        for (int card = 0; card < 4; card++) {
            c.due("account of card " + card, x.card(card, 5), accounts[card]);
            c.due("END of card " + card, x.value(card, 24356, 1), ends[card]);
            c.due("COUNTER of card " + card, x.card(card, 1), card == 3 ? 1 : 0);
        }
    }
}
