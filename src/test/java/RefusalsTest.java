import java.util.function.Consumer;
import java.util.function.ToIntFunction;

/** Behind each refused call nothing has changed, also nothing that only later calls would show. */
public final class RefusalsTest {
    private static final int GREATEST = Integer.MAX_VALUE;
    private static final int LEAST = Integer.MIN_VALUE;
    private static final int[] NO_ACCOUNTS = {-1, 16, LEAST, GREATEST};
    private static final int[] NO_SLOTS = {-1, 8, LEAST, GREATEST};

    private final Sentences sentences = new Sentences();

    private RefusalsTest() throws Exception {
    }

    public static void main(String[] args) throws Exception {
        RefusalsTest test = new RefusalsTest();
        test.fund();
        test.code();
        test.preset();
        test.begin();
        test.send();
        test.payWithNoBlock();
        test.payByWrongAccounts();
        test.payWithAnotherNonce();
        test.payWithWrongTerms();
        test.payForMoreThanIsLeft();
        test.payWithTooLittle();
        test.seal();
        test.termsAreKeptByOthers();
        test.questions();
        test.sentences.close();
    }

    /** Accounts with something in them, and terms that wait for a pay(). */
    private static void setUp(GasLedger x) {
        x.fund(0, 50000);
        x.fund(1, 100);
        x.preset(1, 3, 33);
        Words.load(x, 1, Words.join(Words.words(Words.INPUT, Words.LOG), Words.store(4, 1)));
        x.terms(150, 2, 0);
    }

    private static void underWay(GasLedger x) {
        setUp(x);
        x.begin(5, 9);
        x.send(0, 1, 3, 4);
    }

    private static void accepted(GasLedger x) {
        underWay(x);
        x.seal(0);
    }

    private static void rejected(GasLedger x) {
        underWay(x);
        x.seal(1);
    }

    private static int asNumber(boolean answer) {
        return answer ? 1 : 0;
    }

    private void refused(String name, Consumer<GasLedger> before, ToIntFunction<GasLedger> call, int answer) {
        Twins.nothingChanged(sentences, name, before, call, answer);
    }

    private void refusedAlways(String name, ToIntFunction<GasLedger> call, int answer) {
        refused(name + ", new", x -> { }, call, answer);
        refused(name + ", set up", RefusalsTest::setUp, call, answer);
        refused(name + ", in a block", RefusalsTest::underWay, call, answer);
        refused(name + ", behind an accepted block", RefusalsTest::accepted, call, answer);
        refused(name + ", behind a rejected block", RefusalsTest::rejected, call, answer);
    }

    private void refusedSinceABlock(String name, ToIntFunction<GasLedger> call) {
        refused(name + ", in a block", RefusalsTest::underWay, call, 0);
        refused(name + ", behind an accepted block", RefusalsTest::accepted, call, 0);
        refused(name + ", behind a rejected block", RefusalsTest::rejected, call, 0);
    }

    private void fund() {
        sentences.by("A call that is refused changes nothing.");
        for (int account : NO_ACCOUNTS) {
            refusedAlways("fund(" + account + ", 1)", x -> asNumber(x.fund(account, 1)), 0);
        }
        int[] amounts = {-1, 1000001, LEAST, GREATEST};
        for (int amount : amounts) {
            refusedAlways("fund(1, " + amount + ")", x -> asNumber(x.fund(1, amount)), 0);
        }
        refusedSinceABlock("fund(1, 0)", x -> asNumber(x.fund(1, 0)));
        refusedSinceABlock("fund(1, 1)", x -> asNumber(x.fund(1, 1)));
        refusedSinceABlock("fund(1, 1000000)", x -> asNumber(x.fund(1, 1000000)));
    }

    private static void fullCode(GasLedger x) {
        setUp(x);
        for (int k = 0; k < 24; k++) {
            x.code(2, k);
        }
    }

    private void code() {
        sentences.by("A call that is refused changes nothing.");
        for (int account : NO_ACCOUNTS) {
            refusedAlways("code(" + account + ", 7)", x -> asNumber(x.code(account, 7)), 0);
        }
        refused("a 25th word", RefusalsTest::fullCode, x -> asNumber(x.code(2, 7)), 0);
        refusedSinceABlock("code(1, 7)", x -> asNumber(x.code(1, 7)));
        refusedSinceABlock("code(12, 0)", x -> asNumber(x.code(12, 0)));
    }

    private void preset() {
        sentences.by("A call that is refused changes nothing.");
        for (int account : NO_ACCOUNTS) {
            refusedAlways("preset(" + account + ", 0, 7)", x -> asNumber(x.preset(account, 0, 7)), 0);
        }
        for (int slot : NO_SLOTS) {
            refusedAlways("preset(1, " + slot + ", 7)", x -> asNumber(x.preset(1, slot, 7)), 0);
        }
        refusedSinceABlock("preset(1, 3, 7)", x -> asNumber(x.preset(1, 3, 7)));
        refusedSinceABlock("preset(1, 3, 0)", x -> asNumber(x.preset(1, 3, 0)));
    }

    private static void thirtyBlocks(GasLedger x) {
        setUp(x);
        for (int k = 1; k <= 30; k++) {
            x.begin(k, 9);
            x.send(0, 1, 0, k);
            x.seal(k & 1);
        }
    }

    private void begin() {
        sentences.by("A call that is refused changes nothing.");
        int[] times = {0, -1, LEAST};
        for (int time : times) {
            refusedAlways("begin(" + time + ", 3)", x -> asNumber(x.begin(time, 3)), 0);
        }
        for (int miner : NO_ACCOUNTS) {
            refusedAlways("begin(6, " + miner + ")", x -> asNumber(x.begin(6, miner)), 0);
        }
        int[] laterTimes = {4, 5, 6, GREATEST};
        for (int time : laterTimes) {
            refused("begin(" + time + ", 3) in a block", RefusalsTest::underWay, x -> asNumber(x.begin(time, 3)), 0);
        }
        refused("begin(5, 3) behind block 5", RefusalsTest::accepted, x -> asNumber(x.begin(5, 3)), 0);
        refused("begin(4, 3) behind block 5", RefusalsTest::accepted, x -> asNumber(x.begin(4, 3)), 0);
        refused("a 31st block", RefusalsTest::thirtyBlocks, x -> asNumber(x.begin(31, 3)), 0);
    }

    private void send() {
        sentences.by("A call that is refused changes nothing.");
        refused("send, new", x -> { }, x -> x.send(0, 1, 0, 0), -1);
        refused("send, set up", RefusalsTest::setUp, x -> x.send(0, 1, 0, 0), -1);
        refused("send behind an accepted block", RefusalsTest::accepted, x -> x.send(0, 1, 0, 0), -1);
        refused("send behind a rejected block", RefusalsTest::rejected, x -> x.send(0, 1, 0, 0), -1);
        for (int account : NO_ACCOUNTS) {
            refused("send(" + account + ", 1, 0, 0)", RefusalsTest::underWay, x -> x.send(account, 1, 0, 0), -2);
            refused("send(0, " + account + ", 0, 0)", RefusalsTest::underWay, x -> x.send(0, account, 0, 0), -2);
        }
        refused("send(0, 1, -1, 0)", RefusalsTest::underWay, x -> x.send(0, 1, -1, 0), -2);
        refused("send(0, 1, least, 0)", RefusalsTest::underWay, x -> x.send(0, 1, LEAST, 0), -2);
        refused("send with 199 left of the block", RefusalsTest::leftOfTheBlock, x -> x.send(0, 1, 0, 0), -5);
        refused("send(1, 0, 0, 0)", RefusalsTest::underWay, x -> x.send(1, 0, 0, 0), -6);
        refused("send(0, 1, greatest, 0)", RefusalsTest::underWay, x -> x.send(0, 1, GREATEST, 0), -6);
    }

    /** 2801 of the block's gas are used, 199 are left. */
    private static void leftOfTheBlock(GasLedger x) {
        setUp(x);
        x.code(2, 31);
        x.begin(5, 9);
        x.terms(2801, 1, 0);
        x.pay(0, 2, 0, 0);
    }

    /** A refused pay() leaves a ledger as if its terms had been set to the usual ones. */
    private void refusedPay(String name, Consumer<GasLedger> before, int[] terms, int[] call, int answer) {
        Twins.same(sentences, name, before.andThen(x -> x.terms(terms[0], terms[1], terms[2])),
            x -> x.pay(call[0], call[1], call[2], call[3]), answer, x -> x.terms(200, 1, 0));
    }

    private static int[] numbers(int... all) {
        return all;
    }

    private void payWithNoBlock() {
        sentences.by("(The terms are used up also then.)");
        int[] terms = numbers(300, 2, 0);
        int[] call = numbers(0, 1, 3, 4);
        refusedPay("pay, new", x -> { }, terms, call, -1);
        refusedPay("pay, set up", RefusalsTest::setUp, terms, call, -1);
        refusedPay("pay behind an accepted block", RefusalsTest::accepted, terms, call, -1);
        refusedPay("pay behind a rejected block", RefusalsTest::rejected, terms, call, -1);
    }

    private void payByWrongAccounts() {
        sentences.by("(The terms are used up also then.)");
        int[] terms = numbers(300, 2, 0);
        for (int account : NO_ACCOUNTS) {
            refusedPay("pay(" + account + ", 1, 0, 0)", RefusalsTest::underWay, terms, numbers(account, 1, 0, 0), -2);
            refusedPay("pay(0, " + account + ", 0, 0)", RefusalsTest::underWay, terms, numbers(0, account, 0, 0), -2);
        }
        refusedPay("pay(0, 1, -1, 0)", RefusalsTest::underWay, terms, numbers(0, 1, -1, 0), -2);
        refusedPay("pay(0, 1, least, 0)", RefusalsTest::underWay, terms, numbers(0, 1, LEAST, 0), -2);
    }

    private void payWithAnotherNonce() {
        sentences.by("(The terms are used up also then.)");
        int[] offs = {1, -1, 2, LEAST, GREATEST};
        for (int off : offs) {
            refusedPay("off " + off, RefusalsTest::underWay, numbers(300, 2, off), numbers(0, 1, 3, 4), -3);
        }
    }

    private void payWithWrongTerms() {
        sentences.by("(The terms are used up also then.)");
        int[] limits = {19, 3001, 0, -1, LEAST, GREATEST};
        for (int limit : limits) {
            refusedPay("limit " + limit, RefusalsTest::underWay, numbers(limit, 2, 0), numbers(0, 1, 3, 4), -4);
        }
        int[] prices = {-1, 101, LEAST, GREATEST};
        for (int price : prices) {
            refusedPay("price " + price, RefusalsTest::underWay, numbers(300, price, 0), numbers(0, 1, 3, 4), -4);
        }
    }

    private void payForMoreThanIsLeft() {
        sentences.by("(The terms are used up also then.)");
        int[] limits = {200, 201, 3000};
        for (int limit : limits) {
            refusedPay("limit " + limit + ", 199 left", RefusalsTest::leftOfTheBlock, numbers(limit, 1, 0),
                numbers(0, 1, 3, 4), -5);
        }
    }

    private void payWithTooLittle() {
        sentences.by("(The terms are used up also then.)");
        refusedPay("a poor sender", RefusalsTest::underWay, numbers(104, 1, 0), numbers(1, 0, 0, 0), -6);
        refusedPay("an empty sender", RefusalsTest::underWay, numbers(20, 1, 0), numbers(12, 1, 0, 0), -6);
        refusedPay("a great value", RefusalsTest::underWay, numbers(300, 2, 0), numbers(0, 1, 50000, 0), -6);
        refusedPay("the greatest value", RefusalsTest::underWay, numbers(2000, 100, 0), numbers(0, 1, GREATEST, 0), -6);
    }

    private void seal() {
        sentences.by("A call that is refused changes nothing.");
        int[] shifts = {0, 1, -1, LEAST, GREATEST};
        for (int shift : shifts) {
            refused("seal(" + shift + "), new", x -> { }, x -> x.seal(shift), -1);
            refused("seal(" + shift + "), set up", RefusalsTest::setUp, x -> x.seal(shift), -1);
            refused("seal(" + shift + ") behind an accepted block", RefusalsTest::accepted, x -> x.seal(shift), -1);
            refused("seal(" + shift + ") behind a rejected block", RefusalsTest::rejected, x -> x.seal(shift), -1);
        }
    }

    /** The terms are for the next pay(): neither a send() that is refused nor one that is not uses them up. */
    private void termsAreKeptByOthers() {
        sentences.by("for the next pay(), which uses them up (send() leaves them)");
        GasLedger x = new GasLedger();
        setUp(x);
        x.begin(1, 9);
        x.terms(20, 7, 0);
        sentences.due("send", x.send(0, 2, 0, 0), 20);
        sentences.due("send, refused", x.send(0, 16, 0, 0), -2);
        sentences.due("begin, refused", x.begin(2, 9), false);
        sentences.due("seal", x.seal(0), 1);
        sentences.due("begin", x.begin(2, 9), true);
        int before = x.look(9, 0);
        sentences.due("pay", x.pay(0, 2, 0, 0), 20);
        sentences.due("pay: what the miner got", x.look(9, 0) - before, 140);
        sentences.due("pay again", x.pay(0, 2, 0, 0), 20);
        sentences.due("pay again: what the miner got", x.look(9, 0) - before, 160);
    }

    private void questions() {
        sentences.by("Nothing is promised beyond the answers and state changes described above");
        int[] wrong = {-1, 16, 24, LEAST, GREATEST};
        for (int k : wrong) {
            refusedAlways("look(" + k + ", 0)", x -> x.look(k, 0), -1);
            refusedAlways("look(0, " + k + ")", x -> x.look(0, k), -1);
            refusedAlways("slot(" + k + ", 0)", x -> x.slot(k, 0), 0);
            refusedAlways("slot(1, " + k + ")", x -> x.slot(1, k), 0);
            refusedAlways("word(" + k + ", 0)", x -> x.word(k, 0), 0);
            refusedAlways("word(1, " + k + ")", x -> x.word(1, k), 0);
            refusedAlways("block(" + k + ")", x -> x.block(k), -1);
            refusedAlways("receipt(" + k + ", 0)", x -> x.receipt(k, 0), -1);
            refusedAlways("receipt(0, " + k + ")", x -> x.receipt(0, k), -1);
            refusedAlways("log(" + k + ", 0)", x -> x.log(k, 0), -1);
            refusedAlways("log(0, " + k + ")", x -> x.log(0, k), -1);
        }
        refused("look(1, 0)", RefusalsTest::underWay, x -> x.look(1, 0), 103);
        refused("look(1, 2)", RefusalsTest::underWay, x -> x.look(1, 2), 5);
        refused("slot(1, 3)", RefusalsTest::underWay, x -> x.slot(1, 3), 33);
        refused("word(1, 0)", RefusalsTest::underWay, x -> x.word(1, 0), Words.INPUT);
        refused("block(6)", RefusalsTest::underWay, x -> x.block(6), 1);
        refused("receipt(0, 0)", RefusalsTest::underWay, x -> x.receipt(0, 0), 1);
        refused("log(0, 1)", RefusalsTest::underWay, x -> x.log(0, 1), 4);
        refused("total()", RefusalsTest::underWay, x -> (int) x.total(), 50100);
        refused("root() twice", RefusalsTest::underWay, x -> x.root() - x.root(), 0);
    }
}
