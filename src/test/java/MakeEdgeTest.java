import java.util.Arrays;

/** Promises 4 and 5 at their edges, and CARDS and LIST of the terms: each method has the sentence that it tests. */
public final class MakeEdgeTest {
    private static final int[] USED = {CardText.ACCOUNT, CardText.LIST, CardText.RULES, CardText.END,
        CardText.DEFAULT, CardText.DENIAL, CardText.ONLINE, CardText.LOWER, CardText.UPPER};

    public static void main(String[] args) {
        Check c = new Check();
        cardNumbers(c);
        pins(c);
        keys(c);
        orderOfAnswers(c);
        accounts(c);
        sizesOfValues(c);
        limitAndRules(c);
        emptyList(c);
        demands(c);
        sizesTogether(c);
        tagsOfDemands(c);
        needed(c);
        leastTag(c);
        firstOneIsUsed(c);
        otherObjects(c);
        placeAfterOtherAnswers(c);
        failuresChangeNothing(c);
        inPlaceOfOneThatWasThere(c);
        c.end();
    }

    private static void unfit(Check c, String what, int tag, CardText text) {
        PayChain x = new PayChain();
        c.due(what, text.make(x, 0, 7, 1), PayChain.UNFIT);
        c.due(what + ": place", x.place(), tag);
        c.due(what + ": no card", x.card(0, 0), PayChain.REFUSED);
        c.due(what + ": the text stays", x.count(0), text.length());
    }

    private static void fits(Check c, String what, int objects, CardText text) {
        PayChain x = new PayChain();
        c.due(what, text.make(x, 0, 7, 1), objects);
        c.due(what + ": place", x.place(), PayChain.REFUSED);
        c.due(what + ": the text is empty", x.count(0), 0);
    }

    /** "Makes card 0 .. 3" */
    private static void cardNumbers(Check c) {
        int[] cards = {Integer.MIN_VALUE, -2, -1, 0, 1, 2, 3, 4, 5, 256, Integer.MAX_VALUE};
        for (int card : cards) {
            PayChain x = new PayChain();
            boolean isCard = card >= 0 && card <= 3;
            c.due("make(" + card + ", 7, 1)", CardText.needed().make(x, card, 7, 1), isCard ? 3 : PayChain.REFUSED);
            c.due("the text then", x.count(0), isCard ? 0 : CardText.needed().length());
            for (int other = 0; other < 4; other++) {
                c.due("card " + other + " is there", x.card(other, 4), other == card ? 3 : PayChain.REFUSED);
            }
        }
    }

    /** "a PIN 0 .. 9999" */
    private static void pins(Check c) {
        int[] pins = {Integer.MIN_VALUE, -2, -1, 0, 1, 9998, 9999, 10000, 10001, Integer.MAX_VALUE};
        for (int pin : pins) {
            PayChain x = new PayChain();
            boolean isPin = pin >= 0 && pin <= 9999;
            CardText text = CardText.needed().with(142, 0, 0, 1, 0);
            c.due("make(0, 7, " + pin + ")", text.make(x, 0, 7, pin), isPin ? 4 : PayChain.REFUSED);
            if (isPin) {
                x.setting(0, 999999);
                x.setting(3, 1);
                x.pay(0, 1, pin, 0);
                c.due("the PIN " + pin + " typed", x.last(1), 512);
                x.pay(0, 1, pin == 0 ? 1 : pin - 1, 0);
                c.due("the one beside it", x.last(1), 512 + 4);
            }
        }
    }

    /** "a key": every int is one. The numbers due were worked out apart from this program. */
    private static void keys(Check c) {
        int[] keys = {0, -1, Integer.MIN_VALUE, Integer.MAX_VALUE, 7};
        int[] due = {-226962820, -589982309, -1021118335, -314270721, -337956991};
        for (int i = 0; i < keys.length; i++) {
            PayChain x = new PayChain();
            c.due("make(0, " + keys[i] + ", 1)", CardText.needed().make(x, 0, keys[i], 1), 3);
            x.pay(0, 1, -1, 0);
            c.due("the MAC with the key " + keys[i], x.last(4), due[i]);
        }
    }

    private static CardText many(int objects) {
        CardText text = new CardText();
        for (int i = 0; i < objects; i++) {
            text.with(5);
        }
        return text;
    }

    /** "In this order: REFUSED; BAD; more than 16 objects: FULL; UNFIT." */
    private static void orderOfAnswers(Check c) {
        CardText[] texts = {many(17).raw(5), many(17), many(16), new CardText(), new CardText().raw(5)};
        int[] due = {PayChain.BAD, PayChain.FULL, PayChain.UNFIT, PayChain.UNFIT, PayChain.BAD};
        int[] places = {34, PayChain.REFUSED, 90, 90, 0};
        for (int i = 0; i < texts.length; i++) {
            PayChain x = texts[i].to(new PayChain());
            c.due("a card that is none, text " + i, x.make(4, 7, 1), PayChain.REFUSED);
            c.due("place", x.place(), PayChain.REFUSED);
            c.due("a PIN that is none, text " + i, x.make(0, 7, 10000), PayChain.REFUSED);
            c.due("place", x.place(), PayChain.REFUSED);
            c.due("make of text " + i, x.make(0, 7, 1), due[i]);
            c.due("place", x.place(), places[i]);
        }
    }

    /** "90 (1 byte) its account 0 .. 7" */
    private static void accounts(Check c) {
        for (int account = 0; account <= 255; account++) {
            CardText text = new CardText().with(90, account).with(24356, 0, 1).with(140);
            if (account <= 7) {
                fits(c, "account " + account, 3, text);
                c.due("card(0, 5)", text.asCard().card(0, 5), account);
            } else {
                unfit(c, "account " + account, 90, text);
            }
        }
    }

    /** "(1 byte)", "(2 bytes)", "(2 bytes each)", "(1 byte each)": none, one more and one less is UNFIT. */
    private static void sizesOfValues(Check c) {
        int[][] rows = {{90, 1}, {24356, 2}, {40717, 2}, {40718, 2}, {40719, 2}, {40724, 1}, {40739, 1}};
        for (int[] r : rows) {
            for (int size = 0; size <= 6; size++) {
                CardText text = new CardText().with(r[0], new int[size]).addAll(CardText.needed());
                String what = r[0] + " of " + size + " bytes";
                if (size == r[1]) {
                    fits(c, what, 4, text);
                } else {
                    unfit(c, what, r[0], text);
                }
            }
        }
    }

    /** "142: a LIMIT of 2 bytes and then up to five rules of 2 bytes each" */
    private static void limitAndRules(Check c) {
        for (int size = 0; size <= 30; size++) {
            CardText text = CardText.needed().with(142, new int[size]);
            if (size % 2 == 0 && size >= 2 && size <= 12) {
                fits(c, "142 of " + size + " bytes", 4, text);
            } else {
                unfit(c, "142 of " + size + " bytes", 142, text);
            }
        }
    }

    private static CardText list(int... demands) {
        return new CardText().with(90, 1).with(24356, 0, 1).with(140, demands);
    }

    /** "140, its LIST": it may be empty, but not missing. */
    private static void emptyList(Check c) {
        fits(c, "no demand", 3, list());
        unfit(c, "no list", 140, new CardText().with(90, 1).with(24356, 0, 1));
    }

    private static int[] rowOf(int demands, int tagBytes, int size) {
        int[] row = new int[demands * (tagBytes + 1)];
        for (int i = 0; i < demands; i++) {
            int at = i * (tagBytes + 1);
            row[at] = tagBytes == 2 ? 31 : 5;
            row[at + tagBytes] = size;
        }
        return row;
    }

    /** "at most 8 demands" */
    private static void demands(Check c) {
        for (int tagBytes = 1; tagBytes <= 2; tagBytes++) {
            for (int demands = 0; demands <= 12; demands++) {
                for (int size = 0; size <= 1; size++) {
                    CardText text = list(rowOf(demands, tagBytes, size));
                    String what = demands + " demands of " + tagBytes + " bytes, size " + size;
                    if (demands <= 8) {
                        fits(c, what, 3, text);
                    } else {
                        unfit(c, what, 140, text);
                    }
                }
            }
        }
    }

    /** "sizes together at most 40" */
    private static void sizesTogether(Check c) {
        for (int size = 0; size <= 255; size++) {
            listOfSizes(c, size <= 40, size);
            listOfSizes(c, size <= 39, 1, size);
            listOfSizes(c, size <= 0, size, 40);
            listOfSizes(c, size <= 5, 5, 5, 5, 5, 5, 5, 5, size);
        }
        listOfSizes(c, false, 255, 255, 255, 255, 255, 255, 255, 255);
        listOfSizes(c, false, 128, 128);
        listOfSizes(c, true, 0, 0, 0, 40, 0, 0, 0, 0);
    }

    private static void listOfSizes(Check c, boolean isList, int... sizes) {
        int[] row = new int[2 * sizes.length];
        StringBuilder what = new StringBuilder("sizes");
        for (int i = 0; i < sizes.length; i++) {
            row[2 * i] = 5;
            row[2 * i + 1] = sizes[i];
            what.append(' ').append(sizes[i]);
        }
        if (isList) {
            fits(c, what.toString(), 3, list(row));
        } else {
            unfit(c, what.toString(), 140, list(row));
        }
    }

    /** "tags as above, each followed by one byte, its size" */
    private static void tagsOfDemands(Check c) {
        for (int next = 0; next <= 255; next++) {
            if (next <= 127) {
                fits(c, "a demand of 31 " + next, 3, list(31, next, 1));
            } else {
                unfit(c, "a demand of 31 " + next, 140, list(31, next, 1));
            }
        }
        for (int first = 0; first <= 255; first++) {
            boolean isLong = first % 32 == 31;
            if (isLong) {
                unfit(c, "half a tag and a size", 140, list(first, 1));
                fits(c, "a tag of two bytes and a size", 3, list(first, 1, 1));
            } else {
                fits(c, "a tag and a size", 3, list(first, 1));
                unfit(c, "a second tag without a size", 140, list(first, 1, 1));
            }
        }
        unfit(c, "a tag alone", 140, list(5));
        unfit(c, "half a tag", 140, list(31));
        unfit(c, "a long tag alone", 140, list(5, 1, 31, 0));
        unfit(c, "half a tag at the end", 140, list(5, 1, 31));
        unfit(c, "a tag alone behind 7 demands", 140, list(5, 1, 5, 1, 5, 1, 5, 1, 5, 1, 5, 1, 5, 1, 5));
        unfit(c, "a tag alone behind 8 demands", 140, list(5, 1, 5, 1, 5, 1, 5, 1, 5, 1, 5, 1, 5, 1, 5, 1, 5));
    }

    /** "An object that a card needs is missing": 90, 140 and 24356, and no other. */
    private static void needed(Check c) {
        int[][] values = {{90, 2}, {140}, {24356, 0, 1}};
        for (int there = 0; there < 8; there++) {
            CardText text = new CardText();
            int least = PayChain.REFUSED;
            for (int i = 2; i >= 0; i--) {
                if ((there & 1 << i) != 0) {
                    text.with(values[i][0], Arrays.copyOfRange(values[i], 1, values[i].length));
                } else {
                    least = values[i][0];
                }
            }
            if (there == 7) {
                fits(c, "all that is needed", 3, text);
            } else {
                unfit(c, "needed ones " + there, least, text);
            }
        }
    }

    /** "UNFIT the least tag of 90, 140, .. whose object is missing or not as said": all are wrong at first. */
    private static void leastTag(Check c) {
        int[][] right = {{2}, {}, {0, 0}, {0, 1}, {0, 0}, {0, 0}, {0, 0}, {0}, {0}};
        for (int mended = 0; mended <= USED.length; mended++) {
            CardText text = new CardText();
            for (int i = USED.length - 1; i >= 0; i--) {
                text.with(USED[i], i < mended ? right[i] : new int[] {9, 9, 9});
            }
            if (mended < USED.length) {
                unfit(c, mended + " are mended", USED[mended], text);
            } else {
                fits(c, "all are mended", 9, text);
            }
        }
    }

    /** "from its FIRST objects": a later one of the same tag, right or wrong, is not looked at. */
    private static void firstOneIsUsed(Check c) {
        for (int tag : USED) {
            CardText text = new CardText().around(97, new CardText().with(tag, 9, 9, 9)).addAll(CardText.needed());
            unfit(c, "an inner " + tag + " that is wrong comes first", tag, text);
            fits(c, "a wrong " + tag + " comes later", 10, all().with(tag, 9, 9, 9));
            fits(c, "a wrong " + tag + " comes later, inside", 11,
                    all().around(97, new CardText().with(tag, 9, 9, 9)));
        }
    }

    private static CardText all() {
        return CardText.needed().with(142, 0, 0).with(40717, 0, 0).with(40718, 0, 0).with(40719, 0, 0)
                .with(40724, 0).with(40739, 0);
    }

    /** "Other objects may be there." */
    private static void otherObjects(Check c) {
        int[] others = {0, 89, 91, 139, 141, 143, 24355, 24357, 40716, 40720, 40723, 40725, 40738, 40740, 40706, 149};
        for (int tag : others) {
            fits(c, "an empty " + tag, 4, CardText.needed().with(tag));
            fits(c, tag + " of 7 bytes", 4, CardText.needed().with(tag, 9, 9, 9, 9, 9, 9, 9));
        }
    }

    /** "after another answer, and before the first make, REFUSED" */
    private static void placeAfterOtherAnswers(Check c) {
        PayChain x = new PayChain();
        c.due("before the first make", x.place(), PayChain.REFUSED);
        CardText.needed().to(x);
        c.due("with a text", x.place(), PayChain.REFUSED);
        CardText[] failing = {many(3).raw(5), CardText.needed().with(40739)};
        int[] places = {6, 40739};
        for (int i = 0; i < failing.length; i++) {
            failing[i].make(x, 0, 7, 1);
            c.due("after BAD or UNFIT", x.place(), places[i]);
            c.due("asked again", x.place(), places[i]);
            x.feed(256);
            x.account(1, 1, 1);
            x.setting(0, 0);
            x.pay(0, 1, -1, 0);
            x.wipe();
            c.due("after calls that are no make", x.place(), places[i]);
            x.make(-1, 7, 1);
            c.due("after REFUSED for the card", x.place(), PayChain.REFUSED);
            failing[i].make(x, 0, 7, 1);
            x.make(0, 7, -1);
            c.due("after REFUSED for the PIN", x.place(), PayChain.REFUSED);
            failing[i].make(x, 0, 7, 1);
            many(17).make(x, 0, 7, 1);
            c.due("after FULL", x.place(), PayChain.REFUSED);
            failing[i].make(x, 0, 7, 1);
            CardText.needed().make(x, 0, 7, 1);
            c.due("after a card", x.place(), PayChain.REFUSED);
        }
        many(3).raw(5).make(x, 1, 7, 1);
        new CardText().make(x, 1, 7, 1);
        c.due("UNFIT after BAD", x.place(), 90);
        many(3).raw(5).make(x, 1, 7, 1);
        c.due("BAD after UNFIT", x.place(), 6);
    }

    /** "A call that answers REFUSED, FULL, or a code below changes nothing, but for place as said." */
    private static void failuresChangeNothing(Check c) {
        CardText[] texts = {CardText.needed(), CardText.needed(), many(2).raw(5), many(17),
            new CardText().with(90, 3).with(24356, 0, 9)};
        int[] cards = {4, 0, 0, 0, 0};
        int[] pins = {5, 10000, 5, 5, 5};
        int[] due = {PayChain.REFUSED, PayChain.REFUSED, PayChain.BAD, PayChain.FULL, PayChain.UNFIT};
        for (int i = 0; i < texts.length; i++) {
            PayChain x = CardText.needed().with(142, 0, 0, 1, 0).with(40739, 5).asCard();
            x.setting(3, 1);
            x.pay(0, 10, 1, 0);
            texts[i].to(x);
            int number = i;
            c.unchanged("make of text " + i, x, () -> x.make(cards[number], 8, pins[number]), due[i]);
            x.pay(0, 10, 1, 0);
            c.due("the old PIN holds", x.last(1), 512 + 64);
            c.due("the old key holds", x.last(4), Check.mac(7, 2, 0, 2));
            c.due("RUN goes on", x.card(0, 2), 2);
            c.due("the old objects are there", x.value(0, 40739, 0), 5);
        }
    }

    /** "(in place of one that was there)", with "TRIES (3 at first), COUNTER (0 at first), RUN (0), SEEN (false)" */
    private static void inPlaceOfOneThatWasThere(Check c) {
        CardText text = CardText.needed().with(142, 0, 0, 65, 0, 31, 0);
        PayChain x = CardText.online(text, 7, 7, 1000);
        x.setting(3, 1);
        x.pay(0, 10, 2, 0);
        x.pay(0, 10, 2, 1);
        int[] used = {1, 2, 1, 1, 4, 2};
        for (int what = 0; what < 6; what++) {
            c.due("card(0, " + what + ") of the old one", x.card(0, what), used[what]);
        }
        c.due("make", text.make(x, 0, 7, 1), 4);
        int[] fresh = {3, 0, 0, 0, 4, 2};
        for (int what = 0; what < 6; what++) {
            c.due("card(0, " + what + ") of the new one", x.card(0, what), fresh[what]);
        }
        x.pay(0, 10, 1, 0);
        c.due("its COUNTER is not above LAST", x.last(7), 3);
        c.due("reversals stay", x.queued(0), 2);
        c.due("payments go on", x.last(8), 3);
        CardText.needed().around(97, new CardText().with(5)).make(x, 0, 7, 1);
        c.due("a third one", x.inside(0, 97) * 10 + x.card(0, 1), 10);
        CardText.needed().with(5).with(97).make(x, 0, 7, 1);
        c.due("a fourth one has nothing of the others", x.inside(0, 97) * 10 + x.card(0, 1), 0);
        c.due("nor their rules", x.value(0, 142, 0), PayChain.REFUSED);
    }
}
