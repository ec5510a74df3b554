import java.math.BigInteger;

/** Promise 11 and step 5 of a payment, DATA, at their edges: each method has the sentence that it tests. */
public final class DataEdgeTest {
    private static final int AMOUNT = 40706;
    private static final int FLAGS = 149;
    private static final int DAY = 154;
    private static final int NUMBER = 40759;

    public static void main(String[] args) {
        Check c = new Check();
        noneBeforeTheFirstPayment(c);
        noDemand(c);
        amounts(c);
        flags(c);
        days(c);
        numbersWrap(c);
        everySize(c);
        otherTags(c);
        eightDemands(c);
        placesOutside(c);
        refusedPaymentLeavesData(c);
        macOfAllBytes(c);
        c.end();
    }

    /** A card with a LIST of demands of the tag, one for each size. */
    private static PayChain with(int tag, int... sizes) {
        CardText list = new CardText();
        for (int size : sizes) {
            if (tag > 255) {
                list.raw(tag / 256);
            }
            list.raw(tag % 256, size);
        }
        return new CardText().with(90, 2).with(24356, 0, 100).around(140, list).asCard();
    }

    /** "each as the lowest bytes of it as a NUMBER (zeros before it if the size is above 4..)" */
    private static void dataIs(Check c, String what, PayChain x, long number, int... sizes) {
        int at = 0;
        for (int size : sizes) {
            BigInteger rest = BigInteger.valueOf(number);
            for (int i = at + size - 1; i >= at; i--) {
                c.due(what + ", byte " + i, x.data(i), rest.mod(BigInteger.valueOf(256)).intValue());
                rest = rest.divide(BigInteger.valueOf(256));
            }
            at += size;
        }
        c.due(what + ", behind the end", x.data(at), PayChain.REFUSED);
    }

    /** "REFUSED if there is none" */
    private static void noneBeforeTheFirstPayment(Check c) {
        PayChain x = with(AMOUNT, 4);
        int[] places = {Integer.MIN_VALUE, -1, 0, 1, 39, 40, Integer.MAX_VALUE};
        for (int i : places) {
            c.due("data(" + i + ") of a new object", new PayChain().data(i), PayChain.REFUSED);
            c.due("data(" + i + ") before the first payment", x.data(i), PayChain.REFUSED);
        }
    }

    /** "so many bytes as its size": none without a demand, and none of the size 0 */
    private static void noDemand(Check c) {
        PayChain empty = with(AMOUNT);
        empty.pay(0, 5, -1, 0);
        dataIs(c, "no demand", empty, 5);
        PayChain zero = with(AMOUNT, 0);
        zero.pay(0, 5, -1, 0);
        dataIs(c, "a demand of size 0", zero, 5, 0);
        PayChain between = with(AMOUNT, 1, 0, 2, 0);
        between.pay(0, 5, -1, 0);
        dataIs(c, "size 0 between others", between, 5, 1, 0, 2, 0);
    }

    /** "of the tag 40706 the amount .. as the lowest bytes of it" */
    private static void amounts(Check c) {
        int[] amounts = {1, 127, 128, 255, 256, 257, 32768, 65535, 65536, 65537, 999999};
        for (int amount : amounts) {
            PayChain x = with(AMOUNT, 1, 2, 3, 4, 5, 6);
            x.pay(0, amount, -1, 0);
            dataIs(c, "amount " + amount, x, amount, 1, 2, 3, 4, 5, 6);
        }
    }

    /** "149 the FLAGS", as they are in step 5 */
    private static void flags(Check c) {
        PayChain x = with(FLAGS, 1, 2, 3, 4, 5);
        x.setting(0, 10);
        x.setting(1, 101);
        x.pay(0, 9, -1, 0);
        dataIs(c, "flags 513", x, 513, 1, 2, 3, 4, 5);
        x.setting(1, 100);
        x.pay(0, 10, -1, 0);
        dataIs(c, "flags 576", x, 576, 1, 2, 3, 4, 5);
        x.setting(2, 1);
        x.setting(6, 65535);
        x.account(2, 1000, 8);
        x.pay(0, 9, -1, 0);
        c.due("flag 1024 comes after the DATA", x.last(1), 512 + 1024);
        dataIs(c, "flags before the host", x, 512, 1, 2, 3, 4, 5);
        x.account(2, 1000, 7);
        x.pay(0, 9, -1, 0);
        x.pay(0, 9, -1, 0);
        dataIs(c, "no flag", x, 0, 1, 2, 3, 4, 5);
    }

    /** "154 the day" */
    private static void days(Check c) {
        int[] days = {0, 1, 255, 256, 32768, 65535};
        for (int day : days) {
            PayChain x = with(DAY, 1, 2, 3, 4, 5);
            x.setting(1, day);
            x.pay(0, 9, -1, 0);
            dataIs(c, "day " + day, x, day, 1, 2, 3, 4, 5);
        }
    }

    /** "the payment's number": its lowest byte begins again after 255. */
    private static void numbersWrap(Check c) {
        PayChain x = with(NUMBER, 1, 2, 5);
        for (int number = 1; number <= 258; number++) {
            x.pay(0, 9, -1, 0);
            if (number <= 2 || number >= 255) {
                dataIs(c, "payment " + number, x, number, 1, 2, 5);
                c.due("last(8)", x.last(8), number);
            }
        }
    }

    /** "so many bytes as its size", up to 40 */
    private static void everySize(Check c) {
        for (int size = 0; size <= 40; size++) {
            PayChain x = with(AMOUNT, size);
            x.pay(0, 999999, -1, 0);
            dataIs(c, "size " + size, x, 999999, size);
            PayChain two = with(AMOUNT, size, 40 - size);
            two.pay(0, 999999, -1, 0);
            dataIs(c, "sizes " + size + " and " + (40 - size), two, 999999, size, 40 - size);
        }
    }

    /** "of any other tag zeros", also of one that the card has */
    private static void otherTags(Check c) {
        int[] tags = {0, 90, 148, 150, 153, 155, 140, 24356, 40705, 40707, 40717, 40758, 40760, 2, 55, 255 * 256 + 127};
        for (int tag : tags) {
            PayChain x = with(tag, 2, 5);
            x.setting(1, 65535);
            x.pay(0, 999999, -1, 0);
            dataIs(c, "tag " + tag, x, 0, 2, 5);
        }
    }

    /** "for each demand of the LIST in order", "at most 8 demands" */
    private static void eightDemands(Check c) {
        PayChain x = new CardText().with(90, 2).with(24356, 0, 100)
                .with(140, 159, 2, 3, 149, 2, 154, 2, 159, 55, 1, 7, 2, 154, 1, 149, 1, 159, 2, 1).asCard();
        x.setting(1, 258);
        x.pay(0, 66051, -1, 0);
        int[] due = {1, 2, 3, 2, 65, 1, 2, 1, 0, 0, 2, 65, 3};
        for (int i = 0; i < due.length; i++) {
            c.due("data(" + i + ")", x.data(i), due[i]);
        }
        c.due("behind the end", x.data(due.length), PayChain.REFUSED);
        PayChain same = with(NUMBER, 5, 5, 5, 5, 5, 5, 5, 5);
        same.pay(0, 1, -1, 0);
        dataIs(c, "the same tag eight times", same, 1, 5, 5, 5, 5, 5, 5, 5, 5);
    }

    /** "Byte i (from 0)" */
    private static void placesOutside(Check c) {
        int[] sizes = {0, 1, 39, 40};
        for (int size : sizes) {
            PayChain x = with(AMOUNT, size);
            x.pay(0, 1, -1, 0);
            int[] places = {Integer.MIN_VALUE, -2, -1, size, size + 1, 41, 60, Integer.MAX_VALUE};
            for (int i : places) {
                c.due("data(" + i + ") of " + size, x.data(i), PayChain.REFUSED);
            }
            c.due("the last byte of " + size, x.data(size - 1), size == 0 ? PayChain.REFUSED : 1);
        }
    }

    /** "the last payment's DATA": one that is REFUSED or FULL is none. */
    private static void refusedPaymentLeavesData(Check c) {
        PayChain x = with(AMOUNT, 2);
        x.setting(2, 1);
        x.setting(6, 65535);
        x.pay(0, 258, -1, 1);
        x.pay(0, 1000000, -1, 1);
        dataIs(c, "after REFUSED", x, 258, 2);
        for (int i = 2; i <= 6; i++) {
            x.pay(0, 258 + i, -1, 1);
        }
        c.due("with 6 reversals", x.pay(0, 5, -1, 1), PayChain.FULL);
        dataIs(c, "after FULL", x, 264, 2);
        CardText.needed().make(x, 0, 7, 1);
        dataIs(c, "after the card was made anew", x, 264, 2);
        x.send(0);
        x.pay(0, 5, -1, 1);
        dataIs(c, "of a card without demands", x, 0);
    }

    /** "the MAC, with the card's key, of the bytes: answer, .. then the DATA". Numbers worked out apart. */
    private static void macOfAllBytes(Check c) {
        int[] keys = {0, -1, Integer.MIN_VALUE, Integer.MAX_VALUE, 7};
        int[] due = {1980764630, 1042483228, -1992368201, -454190090, 1902011880};
        for (int i = 0; i < keys.length; i++) {
            PayChain x = new PayChain();
            new CardText().with(90, 2).with(24356, 0, 100).with(140, 159, 2, 3).make(x, 0, keys[i], 1);
            x.pay(0, 999999, -1, 0);
            c.due("the MAC with the key " + keys[i], x.last(4), due[i]);
        }
    }
}
