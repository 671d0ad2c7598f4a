/** The boundary cases of blocks and of what is asked about them (promises 5 to 9 and 14 to 16). */
public final class BlockBoundariesTest {
    private static final int GREATEST = Integer.MAX_VALUE;
    private static final int LEAST = Integer.MIN_VALUE;
    private static final int[] NO_ACCOUNTS = {-1, 16, 17, -16, LEAST, GREATEST};

    private final Sentences sentences = new Sentences();

    private BlockBoundariesTest() throws Exception {
    }

    public static void main(String[] args) throws Exception {
        BlockBoundariesTest test = new BlockBoundariesTest();
        test.timesOfBlocks();
        test.latestAcceptedTime();
        test.minersOfBlocks();
        test.oneBlockAtATime();
        test.thirtyBlocks();
        test.refusedBeginsDoNotCount();
        test.limitOfSend();
        test.nonceOfSend();
        test.usualTerms();
        test.termsUsedUpByEachRefusal();
        test.laterTerms();
        test.firstRefusal();
        test.noBlock();
        test.values();
        test.nonces();
        test.limits();
        test.prices();
        test.leftOfTheBlock();
        test.usedGasCounts();
        test.justEnough();
        test.sumsThatWouldWrap();
        test.shifts();
        test.rootOfTheHeader();
        test.rewardOfTheMiner();
        test.rejectedAsAWhole();
        test.codeWrittenOver();
        test.sealWithNone();
        test.whatOfABlock();
        test.beforeTheFirstBlock();
        test.blockBegunLast();
        test.usedGasAndBloomOfNone();
        test.logsOfAReceipt();
        test.receiptsKept();
        test.receiptsThatAreNotThere();
        test.logsKept();
        test.logsKeptWithinATransaction();
        test.logsThatAreNotThere();
        test.logsUndoneAtTheBoundary();
        test.bitsOfTheBloom();
        test.bloomOfUndoneLogs();
        test.sentences.close();
    }

    private void due(String call, long got, long want) {
        sentences.due(call, got, want);
    }

    private void due(String call, boolean got, boolean want) {
        sentences.due(call, got, want);
    }

    /** Account 0 has 1000000; account 1 fails; account 2 answers its gas; account 3 logs its input. */
    private static GasLedger ledger() {
        GasLedger x = new GasLedger();
        x.fund(0, 1000000);
        Words.load(x, 1, 31);
        Words.load(x, 2, Words.GAS, Words.RETURN);
        Words.load(x, 3, Words.INPUT, Words.LOG);
        return x;
    }

    private static GasLedger begun() {
        GasLedger x = ledger();
        x.begin(1, 9);
        return x;
    }

    private static int payWith(GasLedger x, int limit, int price, int off, int to, int value) {
        x.terms(limit, price, off);
        return x.pay(0, to, value, 0);
    }

    private void timesOfBlocks() {
        sentences.by("the time is not greater than the latest accepted block's");
        int[] early = {0, -1, LEAST};
        for (int time : early) {
            due("new: begin(" + time + ", 0)", new GasLedger().begin(time, 0), false);
        }
        int[] late = {1, 2, GREATEST};
        for (int time : late) {
            due("new: begin(" + time + ", 0)", new GasLedger().begin(time, 0), true);
        }
        GasLedger x = new GasLedger();
        x.begin(7, 0);
        x.seal(0);
        int[] notGreater = {LEAST, -1, 0, 6, 7};
        for (int time : notGreater) {
            due("behind 7: begin(" + time + ", 0)", x.begin(time, 0), false);
        }
        due("behind 7: begin(8, 0)", x.begin(8, 0), true);
        x.seal(0);
        due("behind 8: begin(greatest - 1, 0)", x.begin(GREATEST - 1, 0), true);
        x.seal(0);
        due("behind the greatest - 1: begin(greatest, 0)", x.begin(GREATEST, 0), true);
        x.seal(0);
        due("behind the greatest: begin(greatest, 0)", x.begin(GREATEST, 0), false);
        due("behind the greatest: begin(least, 0)", x.begin(LEAST, 0), false);
        due("behind the greatest: block(2)", x.block(2), GREATEST);
    }

    private void latestAcceptedTime() {
        sentences.by("the latest accepted one's time (2)");
        GasLedger x = new GasLedger();
        due("new: block(2)", x.block(2), 0);
        x.begin(9, 0);
        due("under way: block(2)", x.block(2), 0);
        x.seal(1);
        due("9 rejected: block(2)", x.block(2), 0);
        due("9 rejected: begin(1, 0)", x.begin(1, 0), true);
        x.seal(0);
        due("1 accepted: block(2)", x.block(2), 1);
        due("1 accepted: begin(2, 0)", x.begin(2, 0), true);
        x.seal(1);
        due("2 rejected: block(2)", x.block(2), 1);
        due("2 rejected: begin(2, 0)", x.begin(2, 0), true);
        x.seal(0);
        due("2 accepted: block(2)", x.block(2), 2);
    }

    private void minersOfBlocks() {
        sentences.by("there is no such account as miner");
        for (int miner : NO_ACCOUNTS) {
            due("begin(1, " + miner + ")", new GasLedger().begin(1, miner), false);
        }
        for (int miner = 0; miner < 16; miner += 15) {
            GasLedger x = new GasLedger();
            due("begin(1, " + miner + ")", x.begin(1, miner), true);
            x.seal(0);
            due("look(" + miner + ", 0)", x.look(miner, 0), 50);
            due("total()", x.total(), 50);
        }
    }

    private void oneBlockAtATime() {
        sentences.by("Begins a block: true; false (refused) if one is under way");
        GasLedger x = begun();
        due("send", x.send(0, 3, 0, 4), 33);
        due("begin(2, 8) in a block", x.begin(2, 8), false);
        due("the receipts are still there: block(6)", x.block(6), 1);
        due("the logs are still there: log(0, 1)", x.log(0, 1), 4);
        due("the used gas is still there: block(4)", x.block(4), 33);
        x.seal(0);
        due("the miner is still the same: look(9, 0)", x.look(9, 0), 83);
        due("the time is still the same: block(2)", x.block(2), 1);
        due("begin(2, 8) behind it", x.begin(2, 8), true);
    }

    private void thirtyBlocks() {
        sentences.by("or 30 blocks were begun");
        for (int shift = 0; shift <= 1; shift++) {
            GasLedger x = new GasLedger();
            for (int k = 1; k <= 30; k++) {
                due("block " + k, x.begin(k, 0), true);
                due("seal " + k, x.seal(shift), 1 - shift);
            }
            due("a 31st", x.begin(31, 0), false);
            due("a 31st: block(3)", x.block(3), 0);
            due("a 31st: seal(0)", x.seal(0), -1);
            due("a 31st: block(0)", x.block(0), shift == 0 ? 30 : 0);
            due("a 31st: block(1)", x.block(1), shift == 0 ? 0 : 30);
            due("a 32nd", x.begin(32, 0), false);
        }
        GasLedger open = new GasLedger();
        for (int k = 1; k <= 29; k++) {
            open.begin(k, 0);
            open.seal(0);
        }
        due("the 30th", open.begin(30, 0), true);
        due("the 30th is under way", open.begin(31, 0), false);
        due("the 30th: seal(0)", open.seal(0), 1);
        due("behind the 30th", open.begin(31, 0), false);
    }

    private void refusedBeginsDoNotCount() {
        sentences.by("or 30 blocks were begun");
        GasLedger x = new GasLedger();
        for (int k = 0; k < 40; k++) {
            x.begin(0, 0);
            x.begin(1, 16);
        }
        for (int k = 1; k <= 30; k++) {
            due("block " + k, x.begin(k, 0), true);
            due("in block " + k, x.begin(k + 1, 0), false);
            x.seal(0);
        }
        due("a 31st", x.begin(31, 0), false);
    }

    private void limitOfSend() {
        sentences.by("limit is 200, price 1, the nonce the sender's.");
        GasLedger x = new GasLedger();
        x.fund(0, 209);
        x.fund(4, 208);
        x.begin(1, 9);
        due("9 and 200 of 208", x.send(4, 5, 9, 0), -6);
        due("9 and 200 of 209", x.send(0, 5, 9, 0), 20);
        due("look(0, 0)", x.look(0, 0), 180);
        due("look(9, 0)", x.look(9, 0), 20);
        GasLedger y = begun();
        due("all 200", y.send(0, 1, 0, 0), 200);
        due("the gas of 200", y.send(0, 2, 0, 0), 21);
        due("the gas of 200: receipt(1, 2)", y.receipt(1, 2), 179);
        payWith(y, 2579, 1, 0, 1, 0);
        due("2800 used: block(4)", y.block(4), 2800);
        due("200 left", y.send(0, 3, 0, 0), 33);
        due("167 left", y.send(0, 3, 0, 0), -5);
        GasLedger z = begun();
        payWith(z, 2801, 1, 0, 1, 0);
        due("199 left", z.send(0, 3, 0, 0), -5);
    }

    private void nonceOfSend() {
        sentences.by("limit is 200, price 1, the nonce the sender's.");
        GasLedger x = begun();
        x.terms(19, 101, 1);
        for (int k = 1; k <= 5; k++) {
            due("send " + k, x.send(0, 4, 0, 0), 20);
            due("look(0, 1) behind it", x.look(0, 1), k);
        }
        due("what the miner got", x.look(9, 0), 100);
        due("the terms wait", x.pay(0, 4, 0, 0), -3);
    }

    private void usualTerms() {
        sentences.by("at first and otherwise 200, 1, 0.");
        GasLedger x = begun();
        due("at first", x.pay(0, 2, 0, 0), 21);
        due("at first: receipt(0, 2)", x.receipt(0, 2), 179);
        due("at first: look(9, 0)", x.look(9, 0), 21);
        due("terms", payWith(x, 300, 5, 0, 2, 0), 21);
        due("terms: receipt(1, 2)", x.receipt(1, 2), 279);
        due("terms: look(9, 0)", x.look(9, 0), 21 + 105);
        due("otherwise", x.pay(0, 2, 0, 0), 21);
        due("otherwise: receipt(2, 2)", x.receipt(2, 2), 179);
        due("otherwise: look(9, 0)", x.look(9, 0), 21 + 105 + 21);
        x.seal(0);
        x.begin(2, 9);
        x.pay(0, 2, 0, 0);
        due("in another block: receipt(0, 2)", x.receipt(0, 2), 179);
    }

    /** Behind each refused pay() the next one has the usual terms. */
    private void termsUsedUpByEachRefusal() {
        sentences.by("(The terms are used up also then.)");
        int[][] terms = {{300, 2, 0}, {300, 2, 0}, {300, 2, 1}, {19, 2, 0}, {3000, 2, 0}, {300, 100, 0}};
        int[][] calls = {{0, 2, 0}, {16, 2, 0}, {0, 2, 0}, {0, 2, 0}, {0, 2, 0}, {5, 2, 0}};
        for (int k = 0; k < terms.length; k++) {
            GasLedger x = begun();
            x.send(0, 2, 0, 0);
            if (k == 0) {
                x.seal(0);
            }
            x.terms(terms[k][0], terms[k][1], terms[k][2]);
            due("the refusal", x.pay(calls[k][0], calls[k][1], calls[k][2], 0), -1 - k);
            x.begin(2, 9);
            int before = x.look(9, 0);
            due("refusal " + (-1 - k) + ", then pay", x.pay(0, 2, 0, 0), 21);
            due("refusal " + (-1 - k) + ": output", x.receipt(x.block(6) - 1, 2), 179);
            due("refusal " + (-1 - k) + ": what the miner got", x.look(9, 0) - before, 21);
        }
    }

    private void laterTerms() {
        sentences.by("The limit, the price and by how much the nonce differs from the sender's for the next pay()");
        GasLedger x = begun();
        x.terms(LEAST, LEAST, LEAST);
        x.terms(GREATEST, GREATEST, GREATEST);
        x.terms(22, 3, 0);
        due("the latest terms", x.pay(0, 2, 0, 0), 21);
        due("the latest terms: output", x.receipt(0, 2), 1);
        due("the latest terms: look(9, 0)", x.look(9, 0), 63);
    }

    /** All refusals together, then one fewer each time; the first one that is left is the answer. */
    private void firstRefusal() {
        sentences.by("Answers its used gas; refused, with the first of these");
        for (int set = 0; set < 64; set++) {
            GasLedger x = begun();
            // 2900 are used, 100 are left, and nobody but account 0 can pay.
            payWith(x, 2900, 0, 0, 1, 0);
            boolean noBlock = (set & 1) != 0;
            boolean wrongAccount = (set & 2) != 0;
            boolean wrongNonce = (set & 4) != 0;
            boolean wrongPrice = (set & 8) != 0;
            boolean tooMuchGas = (set & 16) != 0;
            boolean tooPoor = (set & 32) != 0;
            if (noBlock) {
                x.seal(0);
            }
            int limit = tooMuchGas ? 101 : 100;
            x.terms(limit, wrongPrice ? 101 : 1, wrongNonce ? -1 : 0);
            int first = noBlock ? -1 : wrongAccount ? -2 : wrongNonce ? -3 : wrongPrice ? -4 : tooMuchGas ? -5 : -6;
            int value = tooPoor ? 1000000 : 0;
            due("refusals " + set, x.pay(0, wrongAccount ? 16 : 4, value, 0), set == 0 ? 20 : first);
            due("refusals " + set + ": block(6)", x.block(6), set == 0 ? 2 : 1);
            due("refusals " + set + ": look(0, 1)", x.look(0, 1), set == 0 ? 2 : 1);
        }
        GasLedger y = begun();
        due("a limit of 3001 is -4, not -5", payWith(y, 3001, 1, 0, 4, 0), -4);
        due("a limit of 19 is -4, not -6", payWith(y, 19, 1, 0, 4, GREATEST), -4);
        due("a value below 0 is -2, not -3", payWith(y, 19, 1, 1, 4, -1), -2);
    }

    private void noBlock() {
        sentences.by("-1 no block is under way");
        GasLedger x = ledger();
        due("new: send", x.send(0, 4, 0, 0), -1);
        due("new: pay", x.pay(0, 4, 0, 0), -1);
        due("new: pay of none", x.pay(-1, 16, -1, 0), -1);
        x.begin(1, 9);
        due("begun: send", x.send(0, 4, 0, 0), 20);
        due("begun: pay", x.pay(0, 4, 0, 0), 20);
        x.seal(0);
        due("accepted: send", x.send(0, 4, 0, 0), -1);
        due("accepted: pay", x.pay(0, 4, 0, 0), -1);
        x.begin(2, 9);
        x.seal(1);
        due("rejected: send", x.send(0, 4, 0, 0), -1);
        due("rejected: pay", x.pay(0, 4, 0, 0), -1);
    }

    private void values() {
        sentences.by("-2 there is no such sender or account to go to, or value is less than 0");
        GasLedger x = begun();
        int[] below = {-1, -2, LEAST};
        for (int value : below) {
            due("send with " + value, x.send(0, 4, value, 0), -2);
            due("pay with " + value, x.pay(0, 4, value, 0), -2);
        }
        due("send with 0", x.send(0, 4, 0, 0), 20);
        due("send with 1", x.send(0, 4, 1, 0), 20);
        due("look(4, 0)", x.look(4, 0), 1);
        for (int account : NO_ACCOUNTS) {
            due("pay(" + account + ", 4, 0, 0)", x.pay(account, 4, 0, 0), -2);
            due("pay(0, " + account + ", 0, 0)", x.pay(0, account, 0, 0), -2);
            due("pay(" + account + ", " + account + ", 0, 0)", x.pay(account, account, 0, 0), -2);
        }
        due("pay(0, 15, 0, 0)", x.pay(0, 15, 300, 0), 20);
        due("pay(15, 0, 0, 0)", x.pay(15, 0, 0, 0), 20);
        due("pay(0, 0, 0, 0)", x.pay(0, 0, 0, 0), 20);
    }

    private void nonces() {
        sentences.by("-3 the nonce is not the sender's");
        int[] offs = {1, -1, LEAST, GREATEST};
        GasLedger x = begun();
        for (int sent = 0; sent < 3; sent++) {
            for (int off : offs) {
                due(sent + " sent, off " + off, payWith(x, 200, 1, off, 4, 0), -3);
            }
            due(sent + " sent: look(0, 1)", x.look(0, 1), sent);
            due(sent + " sent, off 0", payWith(x, 200, 1, 0, 4, 0), 20);
        }
        due("look(0, 1)", x.look(0, 1), 3);
    }

    private void limits() {
        sentences.by("-4 limit is not 20 .. 3000 or price not 0 .. 100");
        int[] wrong = {19, 0, -1, 3001, LEAST, GREATEST};
        for (int limit : wrong) {
            due("limit " + limit, payWith(begun(), limit, 1, 0, 2, 0), -4);
        }
        due("limit 20", payWith(begun(), 20, 1, 0, 4, 0), 20);
        due("limit 21", payWith(begun(), 21, 1, 0, 2, 0), 21);
        due("limit 2999", payWith(begun(), 2999, 1, 0, 1, 0), 2999);
        due("limit 3000", payWith(begun(), 3000, 1, 0, 1, 0), 3000);
    }

    private void prices() {
        sentences.by("-4 limit is not 20 .. 3000 or price not 0 .. 100");
        int[] wrong = {-1, 101, LEAST, GREATEST};
        for (int price : wrong) {
            due("price " + price, payWith(begun(), 20, price, 0, 4, 0), -4);
        }
        int[] right = {0, 1, 99, 100};
        for (int price : right) {
            GasLedger x = begun();
            due("price " + price, payWith(x, 40, price, 0, 4, 0), 20);
            due("price " + price + ": look(0, 0)", x.look(0, 0), 1000000 - 20 * price);
            due("price " + price + ": look(9, 0)", x.look(9, 0), 20 * price);
        }
    }

    private void leftOfTheBlock() {
        sentences.by("-5 limit is more than what is left of the block's 3000");
        for (int left = 19; left <= 21; left++) {
            GasLedger x = begun();
            due("used " + (3000 - left), payWith(x, 3000 - left, 1, 0, 1, 0), 3000 - left);
            due("limit 20, left " + left, payWith(x, 20, 1, 0, 4, 0), left < 20 ? -5 : 20);
            GasLedger y = begun();
            payWith(y, 3000 - left, 1, 0, 1, 0);
            due("limit 21, left " + left, payWith(y, 21, 1, 0, 4, 0), left < 21 ? -5 : 20);
        }
        GasLedger x = begun();
        due("all", payWith(x, 3000, 1, 0, 1, 0), 3000);
        due("none left", payWith(x, 20, 0, 0, 4, 0), -5);
        due("none left: block(4)", x.block(4), 3000);
        x.seal(0);
        x.begin(2, 9);
        due("all again", payWith(x, 3000, 1, 0, 1, 0), 3000);
        x.seal(1);
        x.begin(2, 9);
        due("all again behind a rejected block", payWith(x, 3000, 1, 0, 1, 0), 3000);
    }

    private void usedGasCounts() {
        sentences.by("takes transactions with limits of 3000 together at most, counting the used gas of those before");
        GasLedger x = begun();
        due("20 of a limit of 3000", payWith(x, 3000, 1, 0, 4, 0), 20);
        due("limit 2981 of 2980", payWith(x, 2981, 1, 0, 4, 0), -5);
        due("limit 2980 of 2980", payWith(x, 2980, 1, 0, 4, 0), 20);
        GasLedger y = new GasLedger();
        y.fund(0, 100000);
        y.preset(1, 0, 1);
        Words.load(y, 1, Words.store(0, 0));
        y.begin(1, 9);
        due("32 less 15", payWith(y, 3000, 1, 0, 1, 0), 17);
        due("limit 2984 of 2983", payWith(y, 2984, 1, 0, 4, 0), -5);
        due("limit 2983 of 2983", payWith(y, 2983, 1, 0, 4, 0), 20);
        due("block(4)", y.block(4), 37);
    }

    private void justEnough() {
        sentences.by("-6 the sender's balance is less than limit * price + value");
        int[][] prices = {{20, 0, 0}, {20, 0, 1}, {20, 1, 0}, {20, 1, 1}, {200, 1, 9}, {3000, 100, 0}, {3000, 100, 700000},
            {21, 99, 12345}};
        for (int[] p : prices) {
            int needed = p[0] * p[1] + p[2];
            String name = "limit " + p[0] + ", price " + p[1] + ", value " + p[2];
            for (int more = -1; more <= 1; more++) {
                if (needed + more >= 0) {
                    GasLedger x = new GasLedger();
                    x.fund(6, Math.min(needed + more, 1000000));
                    x.fund(6, needed + more - Math.min(needed + more, 1000000));
                    x.begin(1, 9);
                    x.terms(p[0], p[1], 0);
                    due(name + ", " + more + " more", x.pay(6, 4, p[2], 0), more < 0 ? -6 : 20);
                    int left = more < 0 ? needed + more : needed + more - 20 * p[1] - p[2];
                    due(name + ", " + more + " more: look(6, 0)", x.look(6, 0), left);
                }
            }
        }
    }

    private void sumsThatWouldWrap() {
        sentences.by("-6 the sender's balance is less than limit * price + value");
        GasLedger x = begun();
        int[] values = {GREATEST, GREATEST - 1, GREATEST - 199, GREATEST - 200, 1000001};
        for (int value : values) {
            due("send " + value, x.send(0, 4, value, 0), -6);
            due("pay " + value, payWith(x, 3000, 100, 0, 4, value), -6);
            due("pay " + value + " for nothing", payWith(x, 20, 0, 0, 4, value), -6);
        }
        due("look(0, 0)", x.look(0, 0), 1000000);
        due("look(4, 0)", x.look(4, 0), 0);
    }

    private void shifts() {
        sentences.by("1 accepted, 0 rejected; -1 (refused) if none is under way.");
        int[] shifts = {1, -1, 2, LEAST, GREATEST, 1 << 16, 1 << 30};
        GasLedger x = begun();
        due("seal(0)", x.seal(0), 1);
        for (int shift : shifts) {
            x.begin(2, 9);
            due("seal(" + shift + ")", x.seal(shift), 0);
        }
        x.begin(2, 9);
        due("seal(0) at last", x.seal(0), 1);
        due("block(0)", x.block(0), 2);
        due("block(1)", x.block(1), shifts.length);
    }

    private void rootOfTheHeader() {
        sentences.by("it is ACCEPTED if the root that its header tells is THE ROOT then");
        GasLedger x = begun();
        x.send(0, 3, 0, 4);
        int before = x.root();
        due("seal(0)", x.seal(0), 1);
        due("THE ROOT then is not the one before", x.root() == before, false);
        GasLedger y = begun();
        y.send(0, 3, 0, 4);
        due("a header with the root before the 50", y.seal(before - x.root()), 0);
        // The root of no account is 0, and a shift is a shift also there.
        GasLedger z = new GasLedger();
        due("root() of none", z.root(), 0);
        z.begin(1, 0);
        due("seal(1) on nothing", z.seal(1), 0);
        due("root() of none again", z.root(), 0);
        z.begin(1, 0);
        due("seal(0) on nothing", z.seal(0), 1);
        due("root() of one", z.root() == 0, false);
    }

    private void rewardOfTheMiner() {
        sentences.by("its miner gets 50 more");
        for (int miner = 0; miner < 16; miner++) {
            GasLedger x = new GasLedger();
            x.begin(1, miner);
            due("before it is sealed: total()", x.total(), 0);
            x.seal(0);
            due("accepted: look(" + miner + ", 0)", x.look(miner, 0), 50);
            x.begin(2, miner);
            x.seal(1);
            due("rejected: look(" + miner + ", 0)", x.look(miner, 0), 50);
            x.begin(2, (miner + 1) & 15);
            x.seal(0);
            due("another miner: look(" + miner + ", 0)", x.look(miner, 0), 50);
            due("another miner: total()", x.total(), 100);
        }
    }

    private void rejectedAsAWhole() {
        sentences.by("else it is REJECTED, and all accounts are as they were before it was begun");
        GasLedger x = ledger();
        x.fund(4, 40);
        x.preset(4, 0, 5);
        x.preset(4, 7, 6);
        Words.load(x, 4, Words.join(Words.store(0, 0), Words.store(3, 3), Words.create(9, 0, 3),
            Words.words(Words.push(6), Words.END)));
        for (int round = 0; round < 3; round++) {
            int root = x.root();
            long total = x.total();
            int nonce = x.look(0, 1);
            x.begin(1 + round, 9);
            due("a program that changes all", payWith(x, 1000, 2, 0, 4, 1), 20 + 12 + 42 + 69 + 21 - 15);
            due("it went: look(4, 2)", x.look(4, 2), 0);
            due("it created: look(5, 2)", x.look(5, 2), 3);
            due("its heir: look(6, 0)", x.look(6, 0), 32);
            due("a receiver", x.send(0, 8, 77, 0), 20);
            due("seal(1)", x.seal(1), 0);
            due("rejected: root()", x.root(), root);
            due("rejected: total()", x.total(), total);
            due("rejected: look(0, 1)", x.look(0, 1), nonce);
            due("rejected: look(4, 2)", x.look(4, 2), 12);
            due("rejected: word(4, 11)", x.word(4, 11), Words.END);
            due("rejected: slot(4, 0)", x.slot(4, 0), 5);
            due("rejected: slot(4, 3)", x.slot(4, 3), 0);
            due("rejected: look(5, 2)", x.look(5, 2), 0);
            due("rejected: look(8, 0)", x.look(8, 0), 0);
            // A block between that is accepted: what is there then is what a rejected one goes back to.
            x.begin(1 + round, 9);
            x.send(0, 7, 1, 0);
            x.seal(0);
        }
        due("block(0)", x.block(0), 3);
        due("block(1)", x.block(1), 3);
        due("look(7, 0)", x.look(7, 0), 3);
    }

    /** An account goes and another one is created there, in one block: a rejected one brings back the first. */
    private void codeWrittenOver() {
        sentences.by("else it is REJECTED, and all accounts are as they were before it was begun");
        for (int account = 1; account < 16; account += 7) {
            GasLedger x = new GasLedger();
            for (int k = 0; k < 16; k++) {
                x.fund(k, k == account ? 0 : 1000);
            }
            Words.load(x, account, Words.join(Words.words(Words.push(0), Words.END), Words.repeat(22, 77)));
            Words.load(x, 0, Words.create(0, 0, 4));
            int root = x.root();
            x.begin(1, 0);
            x.send(0, account, 0, 0);
            due("it went: look(" + account + ", 2)", x.look(account, 2), 0);
            x.send(0, 0, 0, 0);
            due("another one: look(" + account + ", 2)", x.look(account, 2), 4);
            due("another one: word(" + account + ", 0)", x.word(account, 0), Words.push(4));
            due("another one: word(" + account + ", 4)", x.word(account, 4), 0);
            x.seal(1);
            due("rejected: look(" + account + ", 2)", x.look(account, 2), 24);
            due("rejected: word(" + account + ", 0)", x.word(account, 0), Words.push(0));
            due("rejected: word(" + account + ", 23)", x.word(account, 23), 77);
            due("rejected: root()", x.root(), root);
        }
    }

    private void sealWithNone() {
        sentences.by("1 accepted, 0 rejected; -1 (refused) if none is under way.");
        int[] shifts = {0, 1, -1, LEAST, GREATEST};
        GasLedger x = new GasLedger();
        for (int shift : shifts) {
            due("new: seal(" + shift + ")", x.seal(shift), -1);
        }
        x.begin(1, 9);
        x.seal(0);
        for (int shift : shifts) {
            due("sealed: seal(" + shift + ")", x.seal(shift), -1);
        }
        due("block(0)", x.block(0), 1);
        due("block(1)", x.block(1), 0);
        due("look(9, 0)", x.look(9, 0), 50);
    }

    private void whatOfABlock() {
        sentences.by("-1 for another what.");
        int[] others = {-1, 8, 9, LEAST, GREATEST};
        GasLedger x = begun();
        for (int what : others) {
            due("under way: block(" + what + ")", x.block(what), -1);
        }
        x.send(0, 3, 0, 5);
        x.seal(0);
        for (int what : others) {
            due("sealed: block(" + what + ")", x.block(what), -1);
            due("new: block(" + what + ")", new GasLedger().block(what), -1);
        }
        due("block(0)", x.block(0), 1);
        due("block(7)", x.block(7), 1);
    }

    private void beforeTheFirstBlock() {
        sentences.by("All accounts empty; no block; the latest time is 0.");
        GasLedger x = ledger();
        for (int what = 0; what < 8; what++) {
            due("block(" + what + ")", x.block(what), 0);
        }
        for (int what = -1; what < 5; what++) {
            due("receipt(0, " + what + ")", x.receipt(0, what), -1);
            due("log(0, " + what + ")", x.log(0, what), -1);
        }
    }

    private void blockBegunLast() {
        sentences.by("RECEIPTS, LOGS, used gas and BLOOM are those of the block begun last (rejected or not), in order");
        for (int shift = 0; shift <= 1; shift++) {
            GasLedger x = begun();
            x.send(0, 3, 0, 5);
            x.send(0, 1, 0, 6);
            int bloom = LedgerModel.bloomOf(5);
            for (int sealed = 0; sealed <= 1; sealed++) {
                due("block(3)", x.block(3), 1 - sealed);
                due("block(4)", x.block(4), 233);
                due("block(5)", x.block(5), bloom);
                due("block(6)", x.block(6), 2);
                due("block(7)", x.block(7), 1);
                due("receipt(0, 0)", x.receipt(0, 0), 1);
                due("receipt(1, 0)", x.receipt(1, 0), 0);
                due("log(0, 1)", x.log(0, 1), 5);
                x.begin(1, 16);
                x.seal(shift);
            }
            x.begin(2, 9);
            for (int what = 4; what < 8; what++) {
                due("the next one: block(" + what + ")", x.block(what), 0);
            }
            due("the next one: receipt(0, 0)", x.receipt(0, 0), -1);
            due("the next one: log(0, 0)", x.log(0, 0), -1);
            x.send(0, 3, 0, 9);
            due("the next one: receipt(1, 0)", x.receipt(1, 0), -1);
            due("the next one: log(0, 1)", x.log(0, 1), 9);
            due("the next one: block(5)", x.block(5), LedgerModel.bloomOf(9));
        }
    }

    private void usedGasAndBloomOfNone() {
        sentences.by("its used gas or, if none is, that of the latest one (4); the bloom likewise (5)");
        GasLedger x = ledger();
        int[] shifts = {0, 1, 0};
        due("no block yet: block(4)", x.block(4), 0);
        due("no block yet: block(5)", x.block(5), 0);
        for (int k = 0; k < shifts.length; k++) {
            x.begin(k + 1, 9);
            due("begun: block(4)", x.block(4), 0);
            due("begun: block(5)", x.block(5), 0);
            for (int sent = 0; sent <= k; sent++) {
                x.send(0, 3, 0, 7 + k);
                due("under way: block(4)", x.block(4), 33 * (sent + 1));
                due("under way: block(5)", x.block(5), LedgerModel.bloomOf(7 + k));
            }
            x.send(0, 16, 0, 3);
            x.seal(shifts[k]);
            due("sealed: block(4)", x.block(4), 33 * (k + 1));
            due("sealed: block(5)", x.block(5), LedgerModel.bloomOf(7 + k));
            x.begin(k + 2, 16);
            x.send(0, 3, 0, 3);
            due("refused calls behind it: block(4)", x.block(4), 33 * (k + 1));
            due("refused calls behind it: block(5)", x.block(5), LedgerModel.bloomOf(7 + k));
        }
        x.begin(9, 9);
        x.seal(0);
        due("an empty block: block(4)", x.block(4), 0);
        due("an empty block: block(5)", x.block(5), 0);
    }

    private void logsOfAReceipt() {
        sentences.by("its status (0), used gas (1), output (2), how many logs it made (3)");
        GasLedger x = ledger();
        Words.load(x, 4, Words.join(Words.call(50, 3, 0, 1), Words.words(Words.INPUT, Words.LOG), Words.call(20, 5, 0, 2)));
        Words.load(x, 5, Words.INPUT, Words.LOG, 31);
        x.begin(1, 9);
        x.send(0, 4, 0, 8);
        due("one inside, one, one undone: receipt(0, 3)", x.receipt(0, 3), 2);
        x.send(0, 5, 0, 8);
        due("one undone: receipt(1, 3)", x.receipt(1, 3), 0);
        x.send(0, 3, 0, 8);
        due("one: receipt(2, 3)", x.receipt(2, 3), 1);
        x.send(0, 6, 0, 8);
        due("none: receipt(3, 3)", x.receipt(3, 3), 0);
        due("block(7)", x.block(7), 3);
    }

    private void receiptsKept() {
        sentences.by("at most 16 receipts and 16 logs are kept, the first ones");
        GasLedger x = new GasLedger();
        x.fund(0, 100000);
        Words.load(x, 1, Words.INPUT, Words.RETURN);
        x.begin(1, 9);
        for (int k = 0; k < 20; k++) {
            x.terms(21, 1, 0);
            due("pay " + k, x.pay(0, 1, 0, 500 + k), 21);
            due("block(6) behind " + k, x.block(6), k + 1);
            due("receipt(" + k + ", 2)", x.receipt(k, 2), k < 16 ? 500 + k : -1);
            due("receipt(" + (k + 1) + ", 0)", x.receipt(k + 1, 0), -1);
            due("receipt(0, 2) behind " + k, x.receipt(0, 2), 500);
        }
        for (int what = 0; what < 4; what++) {
            due("receipt(15, " + what + ")", x.receipt(15, what), new int[] {1, 21, 515, 0}[what]);
            due("receipt(16, " + what + ")", x.receipt(16, what), -1);
            due("receipt(19, " + what + ")", x.receipt(19, what), -1);
        }
        x.seal(0);
        due("sealed: block(6)", x.block(6), 20);
        due("sealed: receipt(15, 2)", x.receipt(15, 2), 515);
        due("sealed: receipt(16, 2)", x.receipt(16, 2), -1);
        x.begin(2, 9);
        x.send(0, 1, 0, 7);
        due("the next one: receipt(0, 2)", x.receipt(0, 2), 7);
        due("the next one: receipt(1, 2)", x.receipt(1, 2), -1);
        due("the next one: receipt(15, 2)", x.receipt(15, 2), -1);
    }

    private void receiptsThatAreNotThere() {
        sentences.by("-1 if it is not there or not kept, or for another what.");
        GasLedger x = begun();
        x.send(0, 3, 0, 5);
        x.send(0, 3, 0, 6);
        x.send(0, 17, 0, 6);
        int[] none = {-1, 2, 3, 15, 16, LEAST, GREATEST};
        for (int k : none) {
            for (int what = -1; what <= 4; what++) {
                due("receipt(" + k + ", " + what + ")", x.receipt(k, what), -1);
            }
        }
        int[] others = {-1, 4, 5, LEAST, GREATEST};
        for (int what : others) {
            due("receipt(0, " + what + ")", x.receipt(0, what), -1);
            due("receipt(1, " + what + ")", x.receipt(1, what), -1);
        }
        due("receipt(1, 0)", x.receipt(1, 0), 1);
        due("receipt(1, 3)", x.receipt(1, 3), 1);
    }

    private void logsKept() {
        sentences.by("at most 16 receipts and 16 logs are kept, the first ones");
        GasLedger x = begun();
        int bloom = 0;
        for (int k = 0; k < 20; k++) {
            x.terms(33, 1, 0);
            due("pay " + k, x.pay(0, 3, 0, 500 + k), 33);
            bloom |= LedgerModel.bloomOf(500 + k);
            due("block(7) behind " + k, x.block(7), k + 1);
            due("block(5) behind " + k, x.block(5), bloom);
            due("log(" + k + ", 0)", x.log(k, 0), k < 16 ? 3 : -1);
            due("log(" + k + ", 1)", x.log(k, 1), k < 16 ? 500 + k : -1);
            due("log(" + (k + 1) + ", 0)", x.log(k + 1, 0), -1);
            due("receipt(" + k + ", 3)", x.receipt(k, 3), k < 16 ? 1 : -1);
        }
        x.seal(1);
        due("rejected: block(7)", x.block(7), 20);
        due("rejected: log(15, 1)", x.log(15, 1), 515);
        due("rejected: log(16, 1)", x.log(16, 1), -1);
    }

    private void logsKeptWithinATransaction() {
        sentences.by("the number of its receipts (6) and logs (7), also those that are not kept");
        GasLedger x = new GasLedger();
        x.fund(0, 100000);
        Words.load(x, 1, Words.join(Words.words(Words.INPUT, Words.LOG, Words.INPUT, Words.LOG, Words.INPUT, Words.LOG),
            Words.words(Words.INPUT, Words.LOG, Words.INPUT, Words.LOG, Words.INPUT, Words.LOG)));
        x.begin(1, 9);
        for (int k = 0; k < 4; k++) {
            x.send(0, 1, 0, 70 + k);
        }
        due("24 logs: block(7)", x.block(7), 24);
        due("24 logs: log(14, 1)", x.log(14, 1), 72);
        due("24 logs: log(15, 1)", x.log(15, 1), 72);
        due("24 logs: log(16, 1)", x.log(16, 1), -1);
        due("24 logs: receipt(2, 3)", x.receipt(2, 3), 6);
        due("24 logs: receipt(3, 3)", x.receipt(3, 3), 6);
        int bloom = 0;
        for (int k = 0; k < 4; k++) {
            bloom |= LedgerModel.bloomOf(70 + k);
        }
        due("24 logs: block(5)", x.block(5), bloom);
    }

    private void logsThatAreNotThere() {
        sentences.by("the account (0), x (1); -1 likewise");
        GasLedger x = begun();
        x.send(0, 3, 0, LEAST);
        x.send(0, 3, 0, -1);
        int[] none = {-1, 2, 3, 15, 16, LEAST, GREATEST};
        for (int k : none) {
            for (int what = -1; what <= 2; what++) {
                due("log(" + k + ", " + what + ")", x.log(k, what), -1);
            }
        }
        int[] others = {-1, 2, 3, LEAST, GREATEST};
        for (int what : others) {
            due("log(0, " + what + ")", x.log(0, what), -1);
            due("log(1, " + what + ")", x.log(1, what), -1);
        }
        due("log(0, 0)", x.log(0, 0), 3);
        due("log(0, 1)", x.log(0, 1), LEAST);
        due("log(1, 1)", x.log(1, 1), -1);
    }

    /** Logs that were undone take no place among the 16. */
    private void logsUndoneAtTheBoundary() {
        sentences.by("at most 16 receipts and 16 logs are kept, the first ones");
        for (int before = 14; before <= 17; before++) {
            GasLedger x = ledger();
            Words.load(x, 4, Words.push(7), Words.LOG, Words.push(8), Words.LOG, 31);
            Words.load(x, 5, Words.join(Words.words(Words.push(40), Words.LOG), Words.call(40, 4, 0, 0),
                Words.words(Words.push(41), Words.LOG)));
            x.begin(1, 9);
            for (int k = 0; k < before; k++) {
                x.terms(40, 0, 0);
                x.pay(0, 3, 0, 100 + k);
            }
            x.send(0, 4, 0, 0);
            due(before + " logs and two undone: block(7)", x.block(7), before);
            due(before + " logs and two undone: log(" + before + ", 1)", x.log(before, 1), -1);
            x.send(0, 5, 0, 0);
            due(before + " logs, one, two undone, one: block(7)", x.block(7), before + 2);
            due(before + " logs, one, two undone, one: the first", x.log(before, 1), before < 16 ? 40 : -1);
            due(before + " logs, one, two undone, one: the second", x.log(before + 1, 1), before < 15 ? 41 : -1);
            due("the log before", x.log(Math.min(before, 16) - 1, 1), 99 + Math.min(before, 16));
        }
    }

    private void bitsOfTheBloom() {
        sentences.by("the bits (x & 31) and (MIX(6, x) & 31) set");
        int[] xs = {0, 1, 30, 31, 32, 33, -1, -32, LEAST, GREATEST, 12345678};
        for (int k : xs) {
            long t = (6L * 668265263L + k) & 0xffffffffL;
            long mixed = t ^ (t >> 13);
            long bits = 1L << (k & 31) | 1L << (mixed & 31);
            GasLedger x = begun();
            x.send(0, 3, 0, k);
            due("block(5) of " + k, x.block(5), (int) bits);
            x.send(0, 3, 0, k);
            due("block(5) of " + k + " twice", x.block(5), (int) bits);
        }
    }

    private void bloomOfUndoneLogs() {
        sentences.by("for each log of the block that was not undone");
        GasLedger x = ledger();
        Words.load(x, 4, Words.INPUT, Words.LOG, Words.INPUT, Words.push(6), Words.JUMPIF, Words.STOP, 31);
        x.begin(1, 9);
        x.send(0, 4, 0, 5);
        due("undone: block(5)", x.block(5), 0);
        x.send(0, 4, 0, 0);
        due("not undone: block(5)", x.block(5), LedgerModel.bloomOf(0));
        x.send(0, 4, 0, 9);
        due("undone behind one that was not: block(5)", x.block(5), LedgerModel.bloomOf(0));
        x.send(0, 4, 0, 32);
        due("undone with a bit that is set: block(5)", x.block(5), LedgerModel.bloomOf(0));
        due("block(7)", x.block(7), 1);
        due("status of the undone one", x.receipt(0, 0), 0);
        due("logs of the undone one", x.receipt(0, 3), 0);
        due("logs of the other one", x.receipt(1, 3), 1);
    }
}
