/** Promises 4 and 5: which objects are BAD or UNFIT, and what place tells of them. */
public final class PlaceTest {
    public static void main(String[] args) {
        Check c = new Check();
        badTagsAndLengths(c);
        badEnds(c);
        depth(c);
        goodForms(c);
        missing(c);
        unfitValues(c);
        lists(c);
        firstOfTag(c);
        leastTag(c);
        afterOtherAnswers(c);
        c.end();
    }

    private static void bad(Check c, String what, int place, CardText text) {
        c.due(what, text.made(), PayChain.BAD);
        c.due(what + ": place", text.placed(), place);
    }

    private static void unfit(Check c, String what, int tag, CardText text) {
        c.due(what, text.made(), PayChain.UNFIT);
        c.due(what + ": place", text.placed(), tag);
    }

    private static void badTagsAndLengths(Check c) {
        bad(c, "no length", 0, new CardText().raw(90));
        bad(c, "no second byte of a tag", 0, new CardText().raw(95));
        bad(c, "a second byte above 127", 0, new CardText().raw(95, 128, 0));
        bad(c, "a long tag without a length", 0, new CardText().raw(31, 127));
        bad(c, "length 128", 0, new CardText().raw(90, 128));
        bad(c, "length 130", 0, new CardText().raw(90, 130, 1, 1));
        bad(c, "length 255", 0, new CardText().raw(90, 255));
        bad(c, "129 without a length", 0, new CardText().raw(90, 129));
        bad(c, "behind a good one", 13, CardText.needed().with(5, 1).raw(90));
        CardText many = new CardText();
        for (int i = 0; i < 29; i++) {
            many.with(5);
        }
        bad(c, "behind 29 good ones", 58, many.raw(5, 128));
        bad(c, "the first of two", 2, new CardText().with(5).raw(90, 128, 91, 128));
    }

    private static void badEnds(Check c) {
        bad(c, "a value beyond the end", 0, new CardText().raw(90, 1));
        bad(c, "a long length beyond the end", 0, new CardText().raw(90, 129, 255, 1));
        bad(c, "an inner value beyond its outer one", 2, new CardText().raw(112, 3, 5, 2, 1, 1, 1));
        bad(c, "an inner tag cut by its outer one", 2, new CardText().raw(112, 1, 95, 36, 0));
        bad(c, "an inner length cut by its outer one", 2, new CardText().raw(112, 1, 5, 0));
        bad(c, "an inner 129 cut by its outer one", 2, new CardText().raw(112, 2, 5, 129, 0));
        bad(c, "the outer one comes first", 0, new CardText().raw(112, 9, 5));
        bad(c, "inner before the next outer", 4, new CardText().raw(112, 4, 5, 0, 90, 128, 90));
        bad(c, "long tags have inner ones too", 3, new CardText().raw(127, 1, 1, 5));
    }

    private static void depth(Check c) {
        CardText four = new CardText().around(97, new CardText().around(98, new CardText()
                .around(99, new CardText().with(100))));
        c.due("inside of three others, empty", four.made(), PayChain.UNFIT);
        bad(c, "inside of four others", 8, new CardText().around(97, new CardText().around(98,
                new CardText().around(99, new CardText().around(100, new CardText().with(5))))));
        bad(c, "inside of four, behind more", 20, CardText.needed().with(5).raw(97, 7, 98, 5, 99, 3, 32, 1, 5));
        c.due("not cut without the bit 32", CardText.needed().around(97, new CardText().around(98, new CardText()
                .around(99, new CardText().around(80, new CardText().raw(5))))).made(), 7);
    }

    private static void goodForms(Check c) {
        c.due("129 and a small length", new CardText().raw(90, 129, 1, 7).with(24356, 0, 0).with(140).made(), 3);
        c.due("129 and 0", CardText.needed().raw(5, 129, 0).made(), 4);
        c.due("long tags 0 and 127", CardText.needed().raw(31, 0, 0, 31, 127, 0).made(), 5);
        c.due("a length byte 127 is a length", CardText.needed().raw(5, 127).made(), PayChain.BAD);
        c.due("a bad value without the bit 32 is not cut", CardText.needed().with(5, 90, 128).made(), 4);
    }

    private static void missing(Check c) {
        unfit(c, "empty", 90, new CardText());
        unfit(c, "no 90", 90, new CardText().with(24356, 0, 1).with(140));
        unfit(c, "no 140", 140, new CardText().with(90, 1));
        unfit(c, "no 24356", 24356, new CardText().with(90, 1).with(140));
        c.due("the others may be missing", CardText.needed().made(), 3);
        c.due("and place then is refused", CardText.needed().placed(), PayChain.REFUSED);
    }

    private static void unfitValues(Check c) {
        unfit(c, "account 8", 90, new CardText().with(90, 8).with(24356, 0, 1).with(140));
        unfit(c, "account of no bytes", 90, new CardText().with(90).with(24356, 0, 1).with(140));
        unfit(c, "account of 2 bytes", 90, new CardText().with(90, 0, 1).with(24356, 0, 1).with(140));
        unfit(c, "END of 1 byte", 24356, new CardText().with(90, 7).with(24356, 1).with(140));
        unfit(c, "END of 3 bytes", 24356, new CardText().with(90, 7).with(24356, 0, 0, 1).with(140));
        int[] pairs = {40717, 40718, 40719};
        for (int tag : pairs) {
            unfit(c, tag + " of 1 byte", tag, CardText.needed().with(tag, 1));
            unfit(c, tag + " of 3 bytes", tag, CardText.needed().with(tag, 0, 0, 1));
            c.due(tag + " of 2 bytes", CardText.needed().with(tag, 255, 255).made(), 4);
        }
        int[] singles = {40724, 40739};
        for (int tag : singles) {
            unfit(c, tag + " of no bytes", tag, CardText.needed().with(tag));
            unfit(c, tag + " of 2 bytes", tag, CardText.needed().with(tag, 0, 1));
            c.due(tag + " of 1 byte", CardText.needed().with(tag, 255).made(), 4);
        }
        for (int length = 0; length <= 14; length++) {
            CardText text = CardText.needed().with(142, new int[length]);
            if (length >= 2 && length <= 12 && length % 2 == 0) {
                c.due("142 of " + length, text.made(), 4);
            } else {
                unfit(c, "142 of " + length, 142, text);
            }
        }
    }

    private static CardText list(int... demands) {
        return new CardText().with(90, 1).with(24356, 0, 1).with(140, demands);
    }

    private static void lists(Check c) {
        c.due("an empty list", list().made(), 3);
        unfit(c, "a tag without a size", 140, list(149));
        unfit(c, "half a long tag", 140, list(149, 1, 159));
        unfit(c, "a long tag without a size", 140, list(159, 2));
        unfit(c, "a long tag's next byte above 127", 140, list(159, 128, 1));
        c.due("sizes of 40", list(159, 2, 20, 149, 20).made(), 3);
        unfit(c, "sizes of 41", 140, list(159, 2, 20, 149, 21));
        unfit(c, "one size of 255", 140, list(149, 255));
        c.due("size 0", list(149, 0).made(), 3);
        c.due("8 demands", list(1, 1, 2, 1, 3, 1, 4, 1, 5, 1, 6, 1, 7, 1, 8, 1).made(), 3);
        unfit(c, "9 demands", 140, list(1, 1, 2, 1, 3, 1, 4, 1, 5, 1, 6, 1, 7, 1, 8, 1, 9, 1));
        unfit(c, "9 demands of size 0", 140, list(1, 0, 1, 0, 1, 0, 1, 0, 1, 0, 1, 0, 1, 0, 1, 0, 1, 0));
        c.due("8 long demands", list(159, 1, 5, 159, 2, 5, 159, 3, 5, 159, 4, 5, 159, 5, 5, 159, 6, 5,
                159, 7, 5, 159, 8, 5).made(), 3);
    }

    private static void firstOfTag(Check c) {
        CardText innerFirst = new CardText().around(112, new CardText().with(90, 9)).with(90, 1)
                .with(24356, 0, 1).with(140);
        unfit(c, "an inner object that comes first counts", 90, innerFirst);
        CardText outerFirst = CardText.needed().around(112, new CardText().with(90, 9));
        c.due("an inner object that comes later does not", outerFirst.made(), 5);
        unfit(c, "the first of two", 40724, CardText.needed().with(40724).with(40724, 1));
        c.due("the second of two may be anything", CardText.needed().with(40724, 1).with(40724).made(), 5);
    }

    private static void leastTag(Check c) {
        unfit(c, "140 before 24356", 140, new CardText().with(24356).with(140, 1).with(90, 1));
        unfit(c, "90 before all", 90, new CardText().with(40739).with(142).with(140, 1));
        unfit(c, "142 before 24356", 142, new CardText().with(142).with(140).with(90, 1));
        unfit(c, "24356 before 40717", 24356, new CardText().with(40717).with(140).with(90, 1));
        int[] rising = {40717, 40718, 40719, 40724, 40739};
        for (int i = 1; i < rising.length; i++) {
            unfit(c, rising[i - 1] + " before " + rising[i], rising[i - 1],
                    CardText.needed().with(rising[i]).with(rising[i - 1]));
        }
    }

    private static void afterOtherAnswers(Check c) {
        PayChain x = new PayChain();
        new CardText().with(5).raw(90).make(x, 0, 0, 0);
        c.due("BAD", x.place(), 2);
        c.due("still", x.place(), 2);
        x.wipe();
        x.feed(5);
        c.due("other calls leave it", x.place(), 2);
        c.due("make", x.make(4, 0, 0), PayChain.REFUSED);
        c.due("after REFUSED", x.place(), PayChain.REFUSED);
        new CardText().make(x, 0, 0, 0);
        c.due("UNFIT", x.place(), 90);
        CardText full = CardText.needed();
        for (int i = 0; i < 14; i++) {
            full.with(5);
        }
        c.due("make", full.make(x, 0, 0, 0), PayChain.FULL);
        c.due("after FULL", x.place(), PayChain.REFUSED);
        new CardText().make(x, 0, 0, 0);
        CardText.needed().make(x, 0, 0, 0);
        c.due("after a card", x.place(), PayChain.REFUSED);
    }
}
