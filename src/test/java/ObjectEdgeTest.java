/** OBJECTS of the terms at their edges (promises 4, 5, 13, 14): each method has the sentence that it tests. */
public final class ObjectEdgeTest {
    /** The bytes of a text in front of what is tried, those of CardText.needed. */
    private static final int BEFORE = 10;

    public static void main(String[] args) {
        Check c = new Check();
        everyFirstByte(c);
        everySecondByte(c);
        everyLengthByte(c);
        everyLongLength(c);
        valueUpToTheEnd(c);
        missingBytes(c);
        innerRowsHaveTheirOwnEnd(c);
        depth(c);
        depthIsCountedAnew(c);
        firstBadOneCounts(c);
        firstOfATag(c);
        sixteenObjects(c);
        emptyValues(c);
        c.end();
    }

    private static void bad(Check c, String what, int place, CardText text) {
        PayChain x = new PayChain();
        c.due(what, text.make(x, 0, 7, 1), PayChain.BAD);
        c.due(what + ": place", x.place(), place);
        c.due(what + ": no card", x.card(0, 4), PayChain.REFUSED);
    }

    private static void good(Check c, String what, int objects, CardText text) {
        PayChain x = new PayChain();
        c.due(what, text.make(x, 0, 7, 1), objects);
        c.due(what + ": place", x.place(), PayChain.REFUSED);
        c.due(what + ": objects", x.card(0, 4), objects);
    }

    /**
     * "A first byte whose lowest five bits are all 1 makes with the next one .. a TAG 256 * first + next; any other
     * byte is a TAG alone." "If the first byte has the bit 32, the VALUE is cut into objects too"
     */
    private static void everyFirstByte(Check c) {
        for (int first = 0; first <= 255; first++) {
            if (first == CardText.ACCOUNT || first == CardText.LIST) {
                continue;
            }
            int tag = first % 32 == 31 ? 256 * first + 1 : first;
            int inner = first / 32 % 2;
            CardText text = CardText.needed().with(tag, 6, 0);
            good(c, "tag " + tag, 4 + inner, text);
            PayChain x = text.asCard();
            c.due("inside " + tag, x.inside(0, tag), inner);
            c.due("value of " + tag, x.value(0, tag, 1), 0);
            if (tag != first) {
                c.due("its first byte is no tag alone", x.inside(0, first), PayChain.REFUSED);
                c.due("nor is its next byte", x.inside(0, 1), PayChain.REFUSED);
            }
        }
    }

    /** "with the next one, 0 .. 127": above it the object is BAD. */
    private static void everySecondByte(Check c) {
        int[] firsts = {31, 63, 95, 127, 159, 191, 223, 255};
        for (int first : firsts) {
            for (int next = 0; next <= 255; next++) {
                CardText text = CardText.needed().raw(first, next, 0);
                if (next > 127) {
                    bad(c, "tag " + first + " " + next, BEFORE, text);
                } else if (!isOfACard(256 * first + next)) {
                    good(c, "tag " + first + " " + next, 4, text);
                    c.due("inside it", text.asCard().inside(0, 256 * first + next), 0);
                }
            }
        }
    }

    /** Whether a card uses the tag, so that its object may not be empty. */
    private static boolean isOfACard(int tag) {
        return tag >= CardText.DEFAULT && tag <= CardText.ONLINE || tag == CardText.LOWER || tag == CardText.UPPER;
    }

    /** "The LENGTH is one byte 0 .. 127, or the byte 129 and the length as one byte more." */
    private static void everyLengthByte(Check c) {
        int room = 60 - BEFORE - 2;
        for (int length = 0; length <= 255; length++) {
            if (length <= room) {
                CardText text = CardText.needed().raw(5, length).raw(new int[length]);
                good(c, "length " + length, 4, text);
                c.due("no byte behind it", text.asCard().value(0, 5, length), PayChain.REFUSED);
            } else if (length != 129) {
                bad(c, "length " + length, BEFORE, CardText.needed().raw(5, length).raw(new int[room]));
                bad(c, "length " + length + " at the end", BEFORE, CardText.needed().raw(5, length));
            }
        }
    }

    /** "the byte 129 and the length as one byte more", which may be any byte */
    private static void everyLongLength(Check c) {
        int room = 60 - BEFORE - 3;
        for (int length = 0; length <= 255; length++) {
            if (length <= room) {
                CardText text = CardText.needed().raw(5, 129, length).raw(new int[length]);
                good(c, "129 and length " + length, 4, text);
                c.due("no byte behind it", text.asCard().value(0, 5, length), PayChain.REFUSED);
                c.due("its last byte", text.asCard().value(0, 5, length - 1), length == 0 ? PayChain.REFUSED : 0);
            } else {
                bad(c, "129 and length " + length, BEFORE, CardText.needed().raw(5, 129, length).raw(new int[room]));
            }
        }
        CardText long97 = CardText.needed().raw(97, 129, 5, 5, 129, 1, 77, 63).raw(1, 0);
        bad(c, "an inner tag goes over the end of a long length", BEFORE + 7, long97);
        good(c, "129 inside of 129", 5, CardText.needed().raw(97, 129, 4, 5, 129, 1, 77));
    }

    /** "if its VALUE would go beyond the end of the row that is cut": up to the end it may go. */
    private static void valueUpToTheEnd(Check c) {
        for (int length = 1; length <= 48; length++) {
            CardText whole = CardText.needed().raw(5, length).raw(new int[length]);
            CardText short1 = CardText.needed().raw(5, length).raw(new int[length - 1]);
            good(c, "a value up to the end, of " + length, 4, whole);
            bad(c, "a value one beyond the end, of " + length, BEFORE, short1);
        }
        for (int length = 1; length <= 44; length++) {
            CardText whole = CardText.needed().raw(97, length + 2, 5, length).raw(new int[length]).with(6);
            CardText over = CardText.needed().raw(97, length + 1, 5, length).raw(new int[length]).with(6);
            good(c, "an inner value up to the end, of " + length, 6, whole);
            bad(c, "an inner value one beyond the end, of " + length, BEFORE + 2, over);
        }
    }

    /** "if bytes of its TAG or LENGTH are missing" */
    private static void missingBytes(Check c) {
        int[][] cut = {{5}, {31}, {31, 0}, {5, 129}, {31, 0, 129}, {97}, {127}, {127, 127}};
        for (int[] row : cut) {
            bad(c, row.length + " bytes from " + row[0], 0, new CardText().raw(row));
            bad(c, row.length + " bytes from " + row[0] + ", behind", BEFORE, CardText.needed().raw(row));
            bad(c, row.length + " bytes from " + row[0] + ", inside", BEFORE + 2,
                    CardText.needed().with(97, row).with(6));
            bad(c, row.length + " bytes from " + row[0] + ", inside behind", BEFORE + 4,
                    CardText.needed().raw(97, row.length + 2, 6, 0).raw(row).with(6));
        }
    }

    /** "the end of the row that is cut": behind an inner row the outer one goes on. */
    private static void innerRowsHaveTheirOwnEnd(Check c) {
        good(c, "two rows side by side", 7, CardText.needed().raw(97, 2, 5, 0, 98, 2, 6, 0));
        bad(c, "a length from the next row", BEFORE + 2, CardText.needed().raw(97, 1, 5, 0, 98, 0));
        bad(c, "a long length from the next row", BEFORE + 2, CardText.needed().raw(97, 2, 5, 129, 0));
        bad(c, "a tag's next byte from the next row", BEFORE + 2, CardText.needed().raw(97, 1, 31, 5, 0));
        bad(c, "a row inside of a row has the nearer end", BEFORE + 4,
                CardText.needed().raw(97, 6, 98, 2, 5, 1, 6, 0));
        good(c, "up to that end", 7, CardText.needed().raw(97, 7, 98, 3, 5, 1, 6, 7, 0));
    }

    /** An object of the tag, inside of so many others; each of those is long or not. */
    private static CardText nest(int others, CardText inmost, boolean isLong) {
        CardText text = inmost;
        for (int i = 0; i < others; i++) {
            text = new CardText().around(isLong ? 127 * 256 + i : 96 + i, text);
        }
        return text;
    }

    /** "if it lies inside of more than three others" */
    private static void depth(Check c) {
        boolean[] both = {false, true};
        for (boolean isLong : both) {
            int head = isLong ? 3 : 2;
            for (int others = 0; others <= 6; others++) {
                CardText text = CardText.needed();
                text.addAll(nest(others, new CardText().with(5, 1), isLong));
                if (others <= 3) {
                    good(c, "inside of " + others, 4 + others, text);
                } else {
                    bad(c, "inside of " + others, BEFORE + 4 * head, text);
                }
            }
            CardText hollow = CardText.needed();
            hollow.addAll(nest(3, new CardText().with(97), isLong));
            good(c, "with nothing inside of the fourth", 7, hollow);
        }
        CardText plain = CardText.needed();
        plain.addAll(nest(3, new CardText().with(5, 97, 2, 5, 0), false));
        good(c, "the fourth is not cut without the bit 32", 7, plain);
        CardText broken = CardText.needed();
        broken.addAll(nest(4, new CardText().raw(5), false));
        bad(c, "too deep and cut off too", BEFORE + 8, broken);
    }

    /** "inside of more than three others": those beside it do not count. */
    private static void depthIsCountedAnew(Check c) {
        CardText text = new CardText();
        for (int i = 0; i < 2; i++) {
            text.addAll(nest(3, new CardText().with(5), false));
        }
        text.addAll(CardText.needed());
        good(c, "three others, twice one behind the other", 11, text);
        CardText siblings = CardText.needed();
        siblings.addAll(nest(3, new CardText().with(5).with(6).with(97).with(98), false));
        good(c, "four side by side inside of three", 10, siblings);
        CardText later = CardText.needed();
        later.addAll(nest(3, new CardText().with(5).with(97, 6, 0), false));
        bad(c, "the second one's inner object is too deep", BEFORE + 10, later);
    }

    /** "the first BAD one, in the order of their first bytes, counts" */
    private static void firstBadOneCounts(Check c) {
        bad(c, "both at the top", 2, new CardText().with(6).raw(5, 128, 5, 130));
        bad(c, "an inner one and then an outer one", BEFORE + 2, CardText.needed().with(97, 5).raw(5, 128));
        bad(c, "an outer one and then its inner one", BEFORE, CardText.needed().raw(97, 9, 5, 128));
        bad(c, "an inner one of an inner one", BEFORE + 4, CardText.needed().raw(97, 5, 98, 1, 5, 6, 128));
        bad(c, "a too deep one and then one without a length", BEFORE + 8,
                CardText.needed().raw(96, 8, 97, 6, 98, 4, 99, 2, 5, 0, 6));
        bad(c, "one without a length and then a too deep one", BEFORE + 2,
                CardText.needed().raw(96, 1, 6, 96, 8, 97, 6, 98, 4, 99, 2, 5, 0));
        bad(c, "at place 0", 0, new CardText().raw(5, 128));
        CardText last = new CardText();
        for (int i = 0; i < 29; i++) {
            last.with(6);
        }
        bad(c, "at place 58", 58, last.raw(6, 1));
        bad(c, "at place 59", 59, CardText.needed().with(5, new int[47]).raw(6));
    }

    /** "FIRST object of a TAG: that of all objects, inner ones too, whose first byte comes first." */
    private static void firstOfATag(Check c) {
        PayChain same = CardText.needed().around(97, new CardText().with(97, 5, 0, 6, 0).with(6)).asCard();
        c.due("an outer one comes before an inner one of its tag", same.value(0, 97, 0), 97);
        c.due("and has two directly inside", same.inside(0, 97), 2);
        PayChain inner = CardText.needed().around(97, new CardText().around(98, new CardText().with(6, 11)))
                .with(6, 12).asCard();
        c.due("a deep one comes before a later one at the top", inner.value(0, 6, 0), 11);
        PayChain outer = CardText.needed().with(6, 12).around(97, new CardText().with(6, 11)).asCard();
        c.due("one at the top before a later inner one", outer.value(0, 6, 0), 12);
        PayChain empty = CardText.needed().with(6).with(6, 12).asCard();
        c.due("an empty one comes first, too", empty.value(0, 6, 0), PayChain.REFUSED);
        CardText hidden = new CardText().around(97, new CardText().around(98, CardText.needed()));
        PayChain deep = hidden.with(90, 3).with(24356, 0, 9).with(140, 149, 1).asCard();
        c.due("the account of the first", deep.card(0, 5), 2);
        deep.setting(1, 100);
        deep.pay(0, 1, -1, 0);
        c.due("the END of the first", deep.last(1), 512 + 64);
        c.due("the LIST of the first", deep.data(0), PayChain.REFUSED);
        PayChain notCut = CardText.needed().with(5, 6, 1, 9).asCard();
        c.due("what is not cut holds no objects", notCut.value(0, 6, 0), PayChain.REFUSED);
    }

    /** "more than 16 objects: FULL", inner ones and outer ones alike. */
    private static void sixteenObjects(Check c) {
        for (int inner = 0; inner <= 13; inner++) {
            for (int all = 15; all <= 18; all++) {
                CardText inside = new CardText();
                for (int i = 0; i < inner; i++) {
                    inside.with(6);
                }
                CardText text = new CardText().around(97, inside);
                for (int i = inner + 4; i < all; i++) {
                    text.with(6);
                }
                text.addAll(CardText.needed());
                int objects = Math.max(all, inner + 4);
                c.due(objects + " objects, " + inner + " of them inside", text.made(),
                        objects > 16 ? PayChain.FULL : objects);
            }
        }
    }

    /** A LENGTH of 0 is a length. */
    private static void emptyValues(Check c) {
        PayChain x = CardText.needed().with(0).with(97).with(7936).asCard();
        int[] tags = {0, 97, 7936, 140};
        for (int tag : tags) {
            c.due("no byte in " + tag, x.value(0, tag, 0), PayChain.REFUSED);
            c.due("nothing inside " + tag, x.inside(0, tag), 0);
        }
        c.due("objects", x.card(0, 4), 6);
    }
}
