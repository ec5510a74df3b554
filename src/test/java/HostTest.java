/** Promise 8: the steps 6, 8 and 9 of a payment: cryptograms, the host, the second answer. */
public final class HostTest {
    public static void main(String[] args) {
        Check c = new Check();
        cryptograms(c);
        codes(c);
        counterOfTwoBytes(c);
        replies(c);
        noReply(c);
        removed(c);
        c.end();
    }

    private static void cryptograms(Check c) {
        PayChain x = new PayChain();
        x.setting(2, 1);
        x.setting(6, 65535);
        x.account(2, 1000, -77777);
        new CardText().with(90, 2).with(24356, 0, 100).with(140, 159, 2, 2).make(x, 0, -77777, 1);
        x.pay(0, 300, -1, 0);
        c.due("first cryptogram", x.last(4), Check.mac(-77777, 1, 0, 1, 1, 44));
        c.due("second cryptogram", x.last(6), Check.mac(-77777, 2, 0, 1, 1, 44));
        x.pay(0, 800, -1, 0);
        c.due("first cryptogram", x.last(4), Check.mac(-77777, 1, 0, 2, 3, 32));
        c.due("declined by the second", x.last(6), Check.mac(-77777, 0, 0, 2, 3, 32));
        c.due("the MAC of nothing but numbers", Check.mac(9, 1, 0, 4), -694963536);
    }

    private static void codes(Check c) {
        PayChain x = CardText.online(CardText.needed(), 7, 7, 1000);
        c.due("all of the balance", x.pay(0, 1000, -1, 0), PayChain.APPROVED);
        c.due("CODE 1", x.last(7), 1);
        c.due("balance", x.balance(2), 0);
        c.due("above the balance", x.pay(0, 1, -1, 0), PayChain.DECLINED);
        c.due("CODE 4", x.last(7), 4);
        c.due("second answer", x.last(5), 0);
        c.due("SEEN, RUN", x.card(0, 3) * 10 + x.card(0, 2), 10);
        PayChain other = CardText.online(CardText.needed(), 7, 8, 1000);
        c.due("another key", other.pay(0, 10, -1, 0), PayChain.DECLINED);
        c.due("CODE 2", other.last(7), 2);
        c.due("balance", other.balance(2), 1000);
        other.account(2, 5, 7);
        CardText.needed().make(other, 1, 7, 1);
        other.pay(1, 10, -1, 0);
        c.due("CODE 2 left LAST as it was", other.last(7), 4);
        other.account(2, 1000, 7);
        CardText.needed().make(other, 0, 7, 1);
        CardText.needed().make(other, 1, 7, 1);
        other.pay(0, 2000, -1, 0);
        other.pay(1, 10, -1, 0);
        c.due("CODE 4 sets LAST, an equal COUNTER is CODE 3", other.last(7), 3);
        c.due("CODE 3 declines", other.last(0), PayChain.DECLINED);
        c.due("it is a right reply", other.card(1, 3), 1);
        c.due("balance", other.balance(2), 1000);
        other.pay(1, 10, -1, 0);
        c.due("a COUNTER above LAST", other.last(7), 1);
        other.pay(0, 10, -1, 0);
        c.due("a COUNTER at LAST", other.last(7), 3);
        other.setting(6, 0);
        other.pay(1, 10, -1, 0);
        other.setting(6, 65535);
        other.pay(1, 10, -1, 0);
        c.due("a gap in the counters is fine", other.last(7), 1);
    }

    private static void counterOfTwoBytes(Check c) {
        PayChain x = CardText.online(CardText.needed(), 7, 7, 1000);
        for (int i = 1; i <= 255; i++) {
            x.pay(0, 1, -1, 0);
        }
        c.due("COUNTER 255", x.last(4), Check.mac(7, 1, 0, 255));
        x.pay(0, 1, -1, 0);
        c.due("COUNTER 256", x.last(4), Check.mac(7, 1, 1, 0));
        x.pay(0, 1, -1, 0);
        c.due("COUNTER 257", x.last(4), Check.mac(7, 1, 1, 1));
        c.due("CODE", x.last(7), 1);
        c.due("balance", x.balance(2), 1000 - 257);
        c.due("COUNTER", x.card(0, 1), 257);
    }

    private static void replies(Check c) {
        PayChain x = CardText.online(CardText.needed(), 7, 7, 1000);
        x.setting(6, 0);
        x.pay(0, 1, -1, 0);
        x.pay(0, 1, -1, 0);
        c.due("RUN, SEEN", x.card(0, 2) * 10 + x.card(0, 3), 20);
        x.account(2, 1000, 8);
        x.setting(6, 65535);
        x.setting(4, 65535);
        c.due("a wrong seal", x.pay(0, 1, -1, 0), PayChain.DECLINED);
        c.due("flag 1024", x.last(1), 1024 + 512 + 64);
        c.due("RUN, SEEN as before", x.card(0, 2) * 10 + x.card(0, 3), 20);
        c.due("second answer", x.last(5), 0);
        c.due("its cryptogram", x.last(6), Check.mac(7, 0, 0, 3));
        x.account(2, 1000, 7);
        c.due("a right seal, DEFAULT does not count", x.pay(0, 1, -1, 0), PayChain.APPROVED);
        c.due("flags", x.last(1), 512 + 64);
        c.due("RUN, SEEN", x.card(0, 2) * 10 + x.card(0, 3), 1);
    }

    private static void noReply(Check c) {
        for (int fate = 1; fate <= 2; fate++) {
            PayChain x = CardText.online(CardText.needed(), 7, 7, 1000);
            c.due("fate " + fate, x.pay(0, 10, -1, fate), PayChain.APPROVED);
            c.due("second answer", x.last(5), 2);
            c.due("its cryptogram", x.last(6), Check.mac(7, 2, 0, 1));
            c.due("RUN, SEEN", x.card(0, 2) * 10 + x.card(0, 3), 10);
            c.due("CODE", x.last(7), fate - 1);
            c.due("balance", x.balance(2), fate == 1 ? 1000 : 990);
            x.setting(4, 512);
            c.due("terminal's DEFAULT", x.pay(0, 10, -1, fate), PayChain.DECLINED);
            c.due("second answer", x.last(5), 0);
            c.due("RUN stays", x.card(0, 2), 1);
            PayChain y = CardText.online(CardText.needed().with(40717, 0, 64), 7, 7, 1000);
            c.due("card's DEFAULT", y.pay(0, 10, -1, fate), PayChain.DECLINED);
            y.setting(0, 999999);
            c.due("another flag", y.pay(0, 10, -1, fate), PayChain.APPROVED);
            PayChain z = CardText.online(CardText.needed().with(40739, 1), 7, 7, 1000);
            c.due("below UPPER", z.pay(0, 10, -1, fate), PayChain.APPROVED);
            c.due("at UPPER", z.pay(0, 10, -1, fate), PayChain.DECLINED);
            c.due("RUN stays", z.card(0, 2), 1);
        }
        PayChain off = CardText.online(CardText.needed().with(40739, 0), 7, 7, 1000);
        off.setting(2, 0);
        c.due("asked, but not connected", off.pay(0, 10, -1, 0), PayChain.DECLINED);
        c.due("first answer", off.last(3), 1);
        c.due("CODE", off.last(7), 0);
        c.due("no reversal", off.count(2), 0);
        PayChain lost = CardText.online(CardText.needed(), 7, 8, 1000);
        c.due("a wrong key is not seen without a reply", lost.pay(0, 10, -1, 2), PayChain.APPROVED);
        c.due("CODE, flags", lost.last(7) * 10000 + lost.last(1), 20000 + 512 + 64);
    }

    private static void removed(Check c) {
        PayChain x = CardText.online(CardText.needed().with(40739, 3), 7, 7, 1000);
        x.pay(0, 10, -1, 1);
        c.due("RUN", x.card(0, 2), 1);
        c.due("the card is out", x.pay(0, 10, -1, 3), PayChain.REMOVED);
        c.due("outcome", x.last(0), PayChain.REMOVED);
        c.due("no second answer", x.last(5), -1);
        c.due("no second cryptogram", x.last(6), 0);
        c.due("CODE", x.last(7), 1);
        c.due("balance", x.balance(2), 990);
        c.due("RUN, SEEN as before", x.card(0, 2) * 10 + x.card(0, 3), 10);
        x.account(2, 1000, 8);
        c.due("out, with a wrong key", x.pay(0, 10, -1, 3), PayChain.REMOVED);
        c.due("the seal is not looked at", x.last(1), 512 + 64);
        c.due("CODE", x.last(7), 2);
    }
}
