/** Promises 12, 13 and 14: card, value and inside. */
public final class CardTest {
    private static final int[] EXTREMES = {-1, 4, 6, Integer.MIN_VALUE, Integer.MAX_VALUE};

    public static void main(String[] args) {
        Check c = new Check();
        tells(c);
        values(c);
        insides(c);
        notThere(c);
        c.end();
    }

    private static void tells(Check c) {
        PayChain x = new PayChain();
        x.setting(3, 1);
        x.setting(2, 1);
        x.account(7, 100, 7);
        new CardText().with(90, 7).with(24356, 0, 1).with(140).with(142, 0, 0, 65, 0, 31, 0).make(x, 3, 7, 1);
        due(c, x, 3, 0, 0, 0, 4, 7);
        x.pay(3, 1, 2, 0);
        due(c, x, 2, 1, 1, 0, 4, 7);
        x.setting(6, 65535);
        x.pay(3, 1, 2, 0);
        due(c, x, 1, 2, 0, 1, 4, 7);
        x.pay(3, 1, 1, 1);
        due(c, x, 3, 3, 1, 1, 4, 7);
        int[] none = {-1, 6, Integer.MIN_VALUE, Integer.MAX_VALUE};
        for (int what : none) {
            c.due("card(3, " + what + ")", x.card(3, what), PayChain.REFUSED);
        }
    }

    private static void due(Check c, PayChain x, int... all) {
        for (int what = 0; what < 6; what++) {
            c.due("card(3, " + what + ") at COUNTER " + all[1], x.card(3, what), all[what]);
        }
    }

    private static void values(Check c) {
        PayChain x = new PayChain();
        CardText.needed().with(5, 255, 0, 128).with(5, 1, 2, 3, 4).with(31 * 256, 9).with(6)
                .around(112, new CardText().with(7, 77).with(5, 8)).make(x, 1, 7, 1);
        c.due("value(1, 5, 0)", x.value(1, 5, 0), 255);
        c.due("value(1, 5, 1)", x.value(1, 5, 1), 0);
        c.due("value(1, 5, 2)", x.value(1, 5, 2), 128);
        c.due("the second 5 is not the first", x.value(1, 5, 3), PayChain.REFUSED);
        c.due("a long tag", x.value(1, 31 * 256, 0), 9);
        c.due("an empty value", x.value(1, 6, 0), PayChain.REFUSED);
        c.due("an inner one", x.value(1, 7, 0), 77);
        c.due("around it, its tag", x.value(1, 112, 0), 7);
        c.due("around it, the last byte", x.value(1, 112, 5), 8);
        c.due("around it, behind the end", x.value(1, 112, 6), PayChain.REFUSED);
        int[] places = {-1, 3, Integer.MIN_VALUE, Integer.MAX_VALUE};
        for (int i : places) {
            c.due("value(1, 5, " + i + ")", x.value(1, 5, i), PayChain.REFUSED);
        }
        int[] tags = {-1, 0, 8, 31, 256, 65535, Integer.MIN_VALUE, Integer.MAX_VALUE};
        for (int tag : tags) {
            c.due("value(1, " + tag + ", 0)", x.value(1, tag, 0), PayChain.REFUSED);
            c.due("inside(1, " + tag + ")", x.inside(1, tag), PayChain.REFUSED);
        }
        PayChain y = new PayChain();
        new CardText().around(112, new CardText().with(5, 1)).with(5, 2).with(90, 0).with(24356, 1, 2).with(140)
                .make(y, 0, 7, 1);
        c.due("the first 5 lies inside", y.value(0, 5, 0), 1);
        c.due("END, highest first", y.value(0, 24356, 0) * 256 + y.value(0, 24356, 1), 258);
    }

    private static void insides(Check c) {
        PayChain x = new PayChain();
        CardText deep = new CardText().around(98, new CardText().with(5).with(6).with(7)).with(8);
        CardText.needed().around(97, deep).around(63 * 256 + 1, new CardText().with(9)).with(99)
                .with(64, 5, 0, 6, 0).around(97, new CardText().with(5)).make(x, 2, 7, 1);
        c.due("directly inside 97: 98 and 8", x.inside(2, 97), 2);
        c.due("directly inside 98", x.inside(2, 98), 3);
        c.due("inside a long tag", x.inside(2, 63 * 256 + 1), 1);
        c.due("inside an empty one", x.inside(2, 99), 0);
        c.due("without the bit 32", x.inside(2, 64), 0);
        c.due("without the bit 32, inner", x.inside(2, 5), 0);
        c.due("without the bit 32, long", x.inside(2, 24356), 0);
        c.due("objects", x.card(2, 4), 15);
    }

    private static void notThere(Check c) {
        PayChain x = new PayChain();
        CardText.needed().make(x, 0, 7, 1);
        for (int card = 1; card < 4; card++) {
            c.due("card " + card, x.card(card, 0), PayChain.REFUSED);
            c.due("value of card " + card, x.value(card, 90, 0), PayChain.REFUSED);
            c.due("inside card " + card, x.inside(card, 90), PayChain.REFUSED);
        }
        for (int card : EXTREMES) {
            c.due("card " + card, x.card(card, 0), PayChain.REFUSED);
            c.due("value of card " + card, x.value(card, 90, 0), PayChain.REFUSED);
            c.due("inside card " + card, x.inside(card, 90), PayChain.REFUSED);
        }
    }
}
