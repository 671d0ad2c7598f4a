import java.math.BigInteger;

/** The boundary cases of accounts and of the numbers that commit to them (promises 1 to 4, 10 to 13, 17). */
public final class AccountBoundariesTest {
    private static final int GREATEST = Integer.MAX_VALUE;
    private static final int LEAST = Integer.MIN_VALUE;
    private static final int[] NO_ACCOUNTS = {-1, 16, -16, 17, LEAST, GREATEST};
    private static final int[] NO_SLOTS = {-1, 8, -8, 9, LEAST, GREATEST};

    private final Sentences sentences = new Sentences();

    private AccountBoundariesTest() throws Exception {
    }

    public static void main(String[] args) throws Exception {
        AccountBoundariesTest test = new AccountBoundariesTest();
        test.allAccountsEmpty();
        test.accounts();
        test.amounts();
        test.balanceThatWraps();
        test.balancesThatWrapInABlock();
        test.senderBelowNought();
        test.selfBelowNought();
        test.words();
        test.wordsOfNothing();
        test.slots();
        test.slotsOfNothing();
        test.mostThatAnAccountHolds();
        test.settingEndsWithTheFirstBlock();
        test.emptyByEachPart();
        test.emptyAgain();
        test.emptyByANonceAlone();
        test.mixWraps();
        test.noKey();
        test.slotsThatAreNought();
        test.oneSlot();
        test.twoSlots();
        test.threeSlots();
        test.allSlots();
        test.oneAccount();
        test.twoAccounts();
        test.allAccounts();
        test.codeNumber();
        test.valueOfAnEmptyOne();
        test.lookAtWhatThereIsNot();
        test.totals();
        test.sentences.close();
    }

    private void due(String call, long got, long want) {
        sentences.due(call, got, want);
    }

    private void due(String call, boolean got, boolean want) {
        sentences.due(call, got, want);
    }

    /** MIX once more, in numbers that do not wrap by themselves. */
    private static int mix(int a, int b) {
        BigInteger word = BigInteger.ONE.shiftLeft(32);
        BigInteger t = BigInteger.valueOf(a).multiply(BigInteger.valueOf(668265263)).add(BigInteger.valueOf(b)).mod(word);
        return t.xor(t.shiftRight(13)).intValue();
    }

    private static int one(int numberOfBits, int value) {
        return mix(mix(1, numberOfBits), value);
    }

    private static int shared(int numberOfBits, int rest) {
        return mix(mix(2, numberOfBits), rest);
    }

    private static int fork(int zeros, int ones) {
        return mix(mix(3, zeros), ones);
    }

    private static int valueOf(int balance, int nonce, int codeNumber, int slotsRoot) {
        return mix(mix(mix(mix(4, balance), nonce), codeNumber), slotsRoot);
    }

    private void allAccountsEmpty() {
        sentences.by("All accounts empty; no block; the latest time is 0.");
        GasLedger x = new GasLedger();
        for (int account = 0; account < 16; account++) {
            for (int what = 0; what < 4; what++) {
                due("look(" + account + ", " + what + ")", x.look(account, what), 0);
            }
            for (int k = 0; k < 8; k++) {
                due("slot(" + account + ", " + k + ")", x.slot(account, k), 0);
            }
        }
        due("root()", x.root(), 0);
        due("total()", x.total(), 0);
        due("seal(0)", x.seal(0), -1);
        due("block(2)", x.block(2), 0);
        due("block(3)", x.block(3), 0);
        due("begin(0, 0)", x.begin(0, 0), false);
        due("begin(1, 0)", x.begin(1, 0), true);
    }

    private void accounts() {
        sentences.by("ACCOUNTS 0 .. 15: each has a BALANCE");
        GasLedger x = new GasLedger();
        for (int account : NO_ACCOUNTS) {
            due("fund(" + account + ", 1)", x.fund(account, 1), false);
            due("code(" + account + ", 1)", x.code(account, 1), false);
            due("preset(" + account + ", 0, 1)", x.preset(account, 0, 1), false);
            due("begin(1, " + account + ")", x.begin(1, account), false);
        }
        due("root() of none", x.root(), 0);
        for (int account = 0; account < 16; account += 15) {
            due("fund(" + account + ", 300)", x.fund(account, 300), true);
            due("code(" + account + ", 0)", x.code(account, 0), true);
            due("preset(" + account + ", 0, 9)", x.preset(account, 0, 9), true);
        }
        for (int account = 0; account < 16; account++) {
            boolean edge = account == 0 || account == 15;
            due("look(" + account + ", 0)", x.look(account, 0), edge ? 300 : 0);
            due("look(" + account + ", 2)", x.look(account, 2), edge ? 1 : 0);
            due("slot(" + account + ", 0)", x.slot(account, 0), edge ? 9 : 0);
        }
        due("begin(1, 15)", x.begin(1, 15), true);
        due("send(0, 15, 1, 0)", x.send(0, 15, 1, 0), 20);
        due("send(15, 0, 1, 0)", x.send(15, 0, 1, 0), 20);
        for (int account : NO_ACCOUNTS) {
            due("send(" + account + ", 0, 0, 0)", x.send(account, 0, 0, 0), -2);
            due("send(0, " + account + ", 0, 0)", x.send(0, account, 0, 0), -2);
        }
        x.seal(0);
        due("begin(2, 0)", x.begin(2, 0), true);
    }

    private void amounts() {
        sentences.by("amount is not 0 .. 1000000");
        GasLedger x = new GasLedger();
        due("fund(4, -1)", x.fund(4, -1), false);
        due("fund(4, 0)", x.fund(4, 0), true);
        due("look(4, 0) behind 0", x.look(4, 0), 0);
        due("fund(4, 1)", x.fund(4, 1), true);
        due("fund(4, 999999)", x.fund(4, 999999), true);
        due("fund(4, 1000000)", x.fund(4, 1000000), true);
        due("look(4, 0)", x.look(4, 0), 2000000);
        due("fund(4, 1000001)", x.fund(4, 1000001), false);
        due("fund(4, least)", x.fund(4, LEAST), false);
        due("fund(4, greatest)", x.fund(4, GREATEST), false);
        due("look(4, 0) behind refused ones", x.look(4, 0), 2000000);
    }

    /**
     * An account with a balance of the greatest number less so many. It takes more calls than an object is
     * promised for: fewer than 2147 cannot bring a balance there.
     */
    private static void enrich(GasLedger x, int account, int less) {
        for (int k = 0; k < 2147; k++) {
            x.fund(account, 1000000);
        }
        x.fund(account, 483647 - less);
    }

    private void balanceThatWraps() {
        sentences.by("The balance of an account grows by amount (it wraps above 2147483647): true");
        GasLedger x = new GasLedger();
        enrich(x, 3, 1);
        due("look(3, 0), one less", x.look(3, 0), GREATEST - 1);
        due("fund(3, 1)", x.fund(3, 1), true);
        due("look(3, 0), the greatest", x.look(3, 0), GREATEST);
        due("fund(3, 0)", x.fund(3, 0), true);
        due("look(3, 0) behind 0", x.look(3, 0), GREATEST);
        due("fund(3, 1)", x.fund(3, 1), true);
        due("look(3, 0), wrapped", x.look(3, 0), LEAST);
        due("look(3, 4), wrapped", x.look(3, 4), valueOf(LEAST, 0, 5, 0));
        due("root(), wrapped", x.root(), one(16 + 3, x.look(3, 4)));
        due("total(), wrapped", x.total(), LEAST);
        due("fund(3, 1000000)", x.fund(3, 1000000), true);
        due("look(3, 0), above the least", x.look(3, 0), LEAST + 1000000);
        due("look(2, 0)", x.look(2, 0), 0);
        due("look(4, 0)", x.look(4, 0), 0);
    }

    private void balancesThatWrapInABlock() {
        sentences.by("(not below 0, but where it wraps beyond the greatest int)");
        GasLedger x = new GasLedger();
        enrich(x, 3, 49);
        x.begin(1, 3);
        due("the miner gets 50: seal(1)", x.seal(1), 0);
        due("rejected: look(3, 0)", x.look(3, 0), GREATEST - 49);
        x.begin(1, 3);
        due("the miner gets 50: seal(0)", x.seal(0), 1);
        due("accepted: look(3, 0)", x.look(3, 0), LEAST);
        GasLedger y = new GasLedger();
        enrich(y, 3, 9);
        y.fund(0, 1000);
        y.begin(1, 5);
        due("9 more", y.send(0, 3, 9, 0), 20);
        due("9 more: look(3, 0)", y.look(3, 0), GREATEST);
        due("1 more", y.send(0, 3, 1, 0), 20);
        due("1 more: look(3, 0)", y.look(3, 0), LEAST);
        GasLedger z = new GasLedger();
        enrich(z, 3, 9);
        z.fund(0, 1000);
        z.fund(1, 10);
        Words.load(z, 1, Words.push(3), Words.END);
        z.begin(1, 5);
        z.send(0, 1, 0, 0);
        due("END gives 10: look(3, 0)", z.look(3, 0), LEAST);
        due("END gives 10: look(1, 0)", z.look(1, 0), 0);
    }

    /** Less than 0 is less than what a transaction for nothing needs. */
    private void senderBelowNought() {
        sentences.by("-6 the sender's balance is less than limit * price + value");
        GasLedger x = new GasLedger();
        enrich(x, 3, 0);
        x.fund(3, 1);
        x.begin(1, 5);
        x.terms(20, 0, 0);
        due("the least balance: pay(3, 4, 0, 0)", x.pay(3, 4, 0, 0), -6);
        due("the least balance: look(3, 1)", x.look(3, 1), 0);
        GasLedger y = new GasLedger();
        enrich(y, 3, 0);
        y.begin(1, 5);
        y.terms(20, 1, 0);
        due("the greatest balance, 20 and all but 19", y.pay(3, 4, GREATEST - 19, 0), -6);
        y.terms(20, 1, 0);
        due("the greatest balance, 20 and all but 20", y.pay(3, 4, GREATEST - 20, 0), 20);
        due("look(3, 0)", y.look(3, 0), 0);
        due("look(4, 0)", y.look(4, 0), GREATEST - 20);
    }

    private void selfBelowNought() {
        sentences.by("the balance of SELF is less than v");
        GasLedger x = new GasLedger();
        enrich(x, 1, 0);
        x.fund(0, 1000);
        Words.load(x, 1, Words.join(Words.call(0, 2, 0, 0), Words.words(Words.RETURN)));
        x.begin(1, 5);
        x.send(0, 1, 0, 0);
        due("the greatest balance gives 0: receipt(0, 2)", x.receipt(0, 2), 1);
        x.send(0, 1, 1, 0);
        due("the least balance gives 0: receipt(1, 2)", x.receipt(1, 2), 0);
    }

    private void words() {
        sentences.by("false (refused) if there is none, it has 24, or a block was begun ever.");
        for (int account = 0; account < 16; account += 5) {
            GasLedger x = new GasLedger();
            for (int k = 0; k < 24; k++) {
                due("word " + k, x.code(account, 1000 - k), true);
                due("look(" + account + ", 2) behind word " + k, x.look(account, 2), k + 1);
            }
            int value = x.look(account, 4);
            due("a 25th word", x.code(account, 5), false);
            due("look(" + account + ", 2)", x.look(account, 2), 24);
            due("look(" + account + ", 4)", x.look(account, 4), value);
            for (int k = 0; k < 24; k++) {
                due("word(" + account + ", " + k + ")", x.word(account, k), 1000 - k);
            }
            due("the next account's first word", x.word((account + 1) & 15, 0), 0);
            due("the next account takes one", x.code((account + 1) & 15, LEAST), true);
            due("the next account has it", x.word((account + 1) & 15, 0), LEAST);
        }
    }

    private void wordsOfNothing() {
        sentences.by("A word of an account's code; 0 if there is none.");
        GasLedger x = new GasLedger();
        for (int account = 3; account <= 5; account++) {
            for (int k = 0; k < 24; k++) {
                x.code(account, 100 * account + k);
            }
        }
        x.code(15, GREATEST);
        x.code(0, -1);
        due("word(4, -1)", x.word(4, -1), 0);
        due("word(4, 0)", x.word(4, 0), 400);
        due("word(4, 23)", x.word(4, 23), 423);
        due("word(4, 24)", x.word(4, 24), 0);
        due("word(4, -24)", x.word(4, -24), 0);
        due("word(4, least)", x.word(4, LEAST), 0);
        due("word(4, greatest)", x.word(4, GREATEST), 0);
        due("word(15, 0)", x.word(15, 0), GREATEST);
        due("word(15, 1)", x.word(15, 1), 0);
        due("word(0, 0)", x.word(0, 0), -1);
        due("word(0, 1)", x.word(0, 1), 0);
        due("word(1, 0)", x.word(1, 0), 0);
        for (int account : NO_ACCOUNTS) {
            due("word(" + account + ", 0)", x.word(account, 0), 0);
            due("word(" + account + ", 24)", x.word(account, 24), 0);
            due("word(" + account + ", -24)", x.word(account, -24), 0);
        }
    }

    private void slots() {
        sentences.by("A slot of an account becomes v: true; false (refused) if there is none such");
        GasLedger x = new GasLedger();
        int[] values = {1, -1, LEAST, GREATEST, 0};
        for (int v : values) {
            due("preset(6, 0, " + v + ")", x.preset(6, 0, v), true);
            due("preset(6, 7, " + v + ")", x.preset(6, 7, v), true);
            due("slot(6, 0)", x.slot(6, 0), v);
            due("slot(6, 7)", x.slot(6, 7), v);
        }
        for (int k : NO_SLOTS) {
            due("preset(6, " + k + ", 1)", x.preset(6, k, 1), false);
        }
        for (int account : NO_ACCOUNTS) {
            due("preset(" + account + ", 0, 1)", x.preset(account, 0, 1), false);
            due("preset(" + account + ", 7, 1)", x.preset(account, 7, 1), false);
            due("preset(" + account + ", 8, 1)", x.preset(account, 8, 1), false);
        }
        due("root()", x.root(), 0);
    }

    private void slotsOfNothing() {
        sentences.by("A slot of an account; 0 if there is none.");
        GasLedger x = new GasLedger();
        for (int account = 0; account < 16; account++) {
            for (int k = 0; k < 8; k++) {
                x.preset(account, k, 10 * account + k + 1);
            }
        }
        for (int account = 0; account < 16; account += 3) {
            due("slot(" + account + ", 0)", x.slot(account, 0), 10 * account + 1);
            due("slot(" + account + ", 7)", x.slot(account, 7), 10 * account + 8);
            for (int k : NO_SLOTS) {
                due("slot(" + account + ", " + k + ")", x.slot(account, k), 0);
            }
        }
        for (int account : NO_ACCOUNTS) {
            due("slot(" + account + ", 0)", x.slot(account, 0), 0);
            due("slot(" + account + ", 8)", x.slot(account, 8), 0);
            due("slot(" + account + ", -8)", x.slot(account, -8), 0);
        }
    }

    private void mostThatAnAccountHolds() {
        sentences.by("a CODE (at most 24 words, ints) and SLOTS 0 .. 7");
        GasLedger x = new GasLedger();
        for (int account = 14; account < 16; account++) {
            for (int k = 0; k < 26; k++) {
                due("code(" + account + ", least + " + k + ")", x.code(account, LEAST + k), k < 24);
            }
            for (int k = -1; k <= 8; k++) {
                due("preset(" + account + ", " + k + ", greatest)", x.preset(account, k, GREATEST - k), k >= 0 && k < 8);
            }
        }
        for (int account = 14; account < 16; account++) {
            for (int k = -1; k <= 24; k++) {
                due("word(" + account + ", " + k + ")", x.word(account, k), k >= 0 && k < 24 ? LEAST + k : 0);
            }
            for (int k = -1; k <= 8; k++) {
                due("slot(" + account + ", " + k + ")", x.slot(account, k), k >= 0 && k < 8 ? GREATEST - k : 0);
            }
        }
        due("look(13, 2)", x.look(13, 2), 0);
        due("look(13, 3)", x.look(13, 3), 0);
    }

    private void settingDue(String name, GasLedger x, boolean want) {
        due(name + ": fund(2, 1)", x.fund(2, 1), want);
        due(name + ": code(2, 1)", x.code(2, 1), want);
        due(name + ": preset(2, 1, 1)", x.preset(2, 1, 1), want);
    }

    private void settingEndsWithTheFirstBlock() {
        sentences.by("Before the first block is begun, accounts can be given what they have at first.");
        GasLedger x = new GasLedger();
        settingDue("new", x, true);
        x.begin(0, 1);
        x.begin(1, 16);
        x.seal(0);
        x.send(2, 3, 0, 0);
        x.terms(20, 0, 0);
        settingDue("nothing was begun yet", x, true);
        x.begin(1, 1);
        settingDue("in the first block", x, false);
        x.seal(1);
        settingDue("behind a rejected block", x, false);
        x.begin(1, 1);
        settingDue("in the second block", x, false);
        x.seal(0);
        settingDue("behind an accepted block", x, false);
        due("look(2, 0)", x.look(2, 0), 2);
        due("look(2, 2)", x.look(2, 2), 2);
    }

    /** Whether an account is empty is seen in the root, and in what CREATE finds. */
    private void emptyDue(String name, GasLedger x, int account, boolean empty) {
        int alone = one(16 + account, x.look(account, 4));
        due(name + ": root()", x.root(), empty ? 0 : alone);
        // The creator lies behind the account, and those before it are taken.
        for (int k = 0; k < account; k++) {
            x.fund(k, 1);
        }
        x.fund(15, 1000);
        Words.load(x, 15, Words.join(Words.create(0, 0, 1), Words.words(Words.RETURN)));
        x.begin(1, 15);
        x.send(15, 15, 0, 0);
        due(name + ": what CREATE finds", x.receipt(0, 2), empty ? account : account + 1);
    }

    private void emptyByEachPart() {
        sentences.by("It is EMPTY if balance, nonce and all slots are 0 and it has no code.");
        for (int account = 0; account < 14; account += 4) {
            GasLedger nothing = new GasLedger();
            nothing.fund(account, 0);
            nothing.preset(account, 0, 0);
            emptyDue("nothing", nothing, account, true);
            GasLedger balance = new GasLedger();
            balance.fund(account, 1);
            emptyDue("a balance of 1", balance, account, false);
            GasLedger code = new GasLedger();
            code.code(account, 0);
            emptyDue("a word 0", code, account, false);
            for (int k = 0; k < 8; k++) {
                GasLedger slot = new GasLedger();
                slot.preset(account, k, k % 2 == 0 ? 1 : LEAST);
                emptyDue("slot " + k, slot, account, false);
            }
        }
    }

    private void emptyAgain() {
        sentences.by("It is EMPTY if balance, nonce and all slots are 0 and it has no code.");
        GasLedger x = new GasLedger();
        x.preset(4, 7, 1);
        due("a slot that is 1: root()", x.root() == 0, false);
        x.preset(4, 7, 0);
        emptyDue("a slot that was 1", x, 4, true);
        GasLedger y = new GasLedger();
        y.fund(5, 220);
        Words.load(y, 2, Words.words(Words.push(6), Words.END));
        y.begin(1, 5);
        y.send(5, 2, 0, 0);
        due("an account that went: look(2, 4)", y.look(2, 4), valueOf(0, 0, 5, 0));
        due("an account that went: root()", y.root(), one(16 + 5, y.look(5, 4)));
    }

    private void emptyByANonceAlone() {
        sentences.by("It is EMPTY if balance, nonce and all slots are 0 and it has no code.");
        GasLedger x = new GasLedger();
        x.begin(1, 9);
        x.terms(20, 0, 0);
        due("a transaction for nothing", x.pay(6, 6, 0, 0), 20);
        due("look(6, 0)", x.look(6, 0), 0);
        due("look(6, 1)", x.look(6, 1), 1);
        due("look(6, 4)", x.look(6, 4), valueOf(0, 1, 5, 0));
        due("root()", x.root(), one(16 + 6, x.look(6, 4)));
        due("a balance that is 0 all the same: look(9, 4)", x.look(9, 4), valueOf(0, 0, 5, 0));
    }

    private void mixWraps() {
        sentences.by("the number is t with its bits exclusive-ored with those of t moved 13 places to the right,"
            + " zeros coming in (t ^ t >>> 13)");
        int[] values = {1, -1, 2, LEAST, GREATEST, LEAST + 1, 8191, 8192, 668265263, -668265263};
        for (int v : values) {
            GasLedger x = new GasLedger();
            x.preset(0, 0, v);
            due("look(0, 3) with " + v, x.look(0, 3), one(8, v));
            due("look(0, 4) with " + v, x.look(0, 4), valueOf(0, 0, 5, one(8, v)));
            GasLedger y = new GasLedger();
            y.code(0, v);
            due("look(0, 4) with a word " + v, y.look(0, 4), valueOf(0, 0, mix(5, v), 0));
        }
        // The MIX of this test itself, against numbers that were reckoned by hand.
        due("MIX(0, 8191)", mix(0, 8191), 8191);
        due("MIX(0, 8192)", mix(0, 8192), 8193);
        due("MIX(0, -1)", mix(0, -1), -1 ^ 524287);
        due("MIX(2, 0)", mix(2, 0), 1336530526 ^ 163150);
    }

    private void noKey() {
        sentences.by("Its ROOT: 0 if it has none");
        GasLedger x = new GasLedger();
        due("root()", x.root(), 0);
        due("look(0, 3)", x.look(0, 3), 0);
        x.fund(0, 5);
        x.code(0, 5);
        due("look(0, 3) of an account with no slots", x.look(0, 3), 0);
        x.preset(0, 4, 5);
        due("look(0, 3) of one with a slot", x.look(0, 3) == 0, false);
        x.preset(0, 4, 0);
        due("look(0, 3) of one that had one", x.look(0, 3), 0);
    }

    private void slotsThatAreNought() {
        sentences.by("The SLOTS ROOT of an account is that of the map from 3 bits, the slots that are not 0, to these.");
        for (int k = 0; k < 8; k++) {
            GasLedger x = new GasLedger();
            for (int other = 0; other < 8; other++) {
                x.preset(7, other, 9);
            }
            for (int other = 0; other < 8; other++) {
                x.preset(7, other, other == k ? -1 : 0);
            }
            due("all 0 but slot " + k, x.look(7, 3), one(8 + k, -1));
            x.preset(7, k, 0);
            due("all 0", x.look(7, 3), 0);
        }
    }

    private static GasLedger withSlots(int... slots) {
        GasLedger x = new GasLedger();
        for (int k : slots) {
            x.preset(7, k, 50 + k);
        }
        return x;
    }

    private void oneSlot() {
        sentences.by("if it has one, MIX(MIX(1, the number of its bits), its value)");
        for (int k = 0; k < 8; k++) {
            due("slot " + k, withSlots(k).look(7, 3), one(8 + k, 50 + k));
        }
    }

    private void twoSlots() {
        sentences.by("else, if all its keys begin with the same bits, as many of them as there are (at least one):"
            + " MIX(MIX(2, the number of these), the root of the map of what remains of the keys behind them)");
        for (int pair = 0; pair < 4; pair++) {
            int low = 2 * pair;
            int both = fork(one(1, 50 + low), one(1, 51 + low));
            due("two bits of " + low + " and " + (low + 1), withSlots(low, low + 1).look(7, 3), shared(4 + pair, both));
        }
        due("one bit of 0 and 2", withSlots(0, 2).look(7, 3), shared(2, fork(one(2, 50), one(2, 52))));
        due("one bit of 1 and 2", withSlots(1, 2).look(7, 3), shared(2, fork(one(3, 51), one(2, 52))));
        due("one bit of 5 and 6", withSlots(5, 6).look(7, 3), shared(3, fork(one(3, 55), one(2, 56))));
        due("one bit of 4 and 7", withSlots(4, 7).look(7, 3), shared(3, fork(one(2, 54), one(3, 57))));
        due("no bit of 0 and 4", withSlots(0, 4).look(7, 3), fork(one(4, 50), one(4, 54)));
        due("no bit of 3 and 4", withSlots(3, 4).look(7, 3), fork(one(7, 53), one(4, 54)));
        due("no bit of 0 and 7", withSlots(0, 7).look(7, 3), fork(one(4, 50), one(7, 57)));
    }

    private void threeSlots() {
        sentences.by("else MIX(MIX(3, the root of the map of the keys that begin with 0, of what remains behind that),"
            + " that of those that begin with 1)");
        int low = fork(fork(one(1, 50), one(1, 51)), one(2, 52));
        due("0, 1 and 2", withSlots(0, 1, 2).look(7, 3), shared(2, low));
        int firstTwo = shared(2, fork(one(1, 50), one(1, 51)));
        due("0, 1 and 4", withSlots(0, 1, 4).look(7, 3), fork(firstTwo, one(4, 54)));
        int lastTwo = shared(3, fork(one(1, 56), one(1, 57)));
        due("3, 6 and 7", withSlots(3, 6, 7).look(7, 3), fork(one(7, 53), lastTwo));
        int apart = fork(one(2, 54), one(2, 56));
        due("0, 4 and 6", withSlots(0, 4, 6).look(7, 3), fork(one(4, 50), apart));
    }

    private void allSlots() {
        sentences.by("(With no bits remaining there is one key, whose number of bits is 1.)");
        int[] quarters = new int[4];
        for (int k = 0; k < 4; k++) {
            quarters[k] = fork(one(1, 50 + 2 * k), one(1, 51 + 2 * k));
        }
        int root = fork(fork(quarters[0], quarters[1]), fork(quarters[2], quarters[3]));
        due("all slots", withSlots(0, 1, 2, 3, 4, 5, 6, 7).look(7, 3), root);
        due("slots 6 and 7", withSlots(6, 7).look(7, 3), shared(7, quarters[3]));
    }

    private void oneAccount() {
        sentences.by("THE ROOT is that of the map from 4 bits, the accounts that are not empty, to their values.");
        for (int account = 0; account < 16; account++) {
            GasLedger x = new GasLedger();
            x.fund(account, 9);
            due("account " + account, x.root(), one(16 + account, valueOf(9, 0, 5, 0)));
        }
    }

    private static GasLedger withAccounts(int... accounts) {
        GasLedger x = new GasLedger();
        for (int account : accounts) {
            x.fund(account, 9);
        }
        return x;
    }

    private void twoAccounts() {
        sentences.by("THE ROOT is that of the map from 4 bits, the accounts that are not empty, to their values.");
        int v = valueOf(9, 0, 5, 0);
        due("three bits of 14 and 15", withAccounts(14, 15).root(), shared(15, fork(one(1, v), one(1, v))));
        due("three bits of 0 and 1", withAccounts(0, 1).root(), shared(8, fork(one(1, v), one(1, v))));
        due("two bits of 12 and 15", withAccounts(12, 15).root(), shared(7, fork(one(2, v), one(3, v))));
        due("one bit of 0 and 7", withAccounts(0, 7).root(), shared(2, fork(one(4, v), one(7, v))));
        due("no bit of 7 and 8", withAccounts(7, 8).root(), fork(one(15, v), one(8, v)));
        due("no bit of 0 and 15", withAccounts(0, 15).root(), fork(one(8, v), one(15, v)));
    }

    private void allAccounts() {
        sentences.by("(With no bits remaining there is one key, whose number of bits is 1.)");
        int[] accounts = new int[16];
        for (int k = 0; k < 16; k++) {
            accounts[k] = k;
        }
        int root = one(1, valueOf(9, 0, 5, 0));
        for (int level = 0; level < 4; level++) {
            root = fork(root, root);
        }
        due("all accounts", withAccounts(accounts).root(), root);
    }

    private void codeNumber() {
        sentences.by("Its CODE NUMBER: 5, for each word c in order MIX(what there was, c).");
        GasLedger x = new GasLedger();
        due("no word", x.look(11, 4), valueOf(0, 0, 5, 0));
        int number = 5;
        for (int k = 0; k < 24; k++) {
            int word = k % 3 == 0 ? 0 : k % 3 == 1 ? LEAST + k : GREATEST - k;
            x.code(11, word);
            number = mix(number, word);
            due(k + 1 + " words", x.look(11, 4), valueOf(0, 0, number, 0));
        }
    }

    private void valueOfAnEmptyOne() {
        sentences.by("its value for the root (4; of an empty one, too, as reckoned)");
        GasLedger x = new GasLedger();
        for (int account = 0; account < 16; account++) {
            due("look(" + account + ", 4)", x.look(account, 4), valueOf(0, 0, 5, 0));
        }
    }

    private void lookAtWhatThereIsNot() {
        sentences.by("-1 if there is no such account or what.");
        GasLedger x = new GasLedger();
        for (int account = 0; account < 16; account++) {
            x.fund(account, 100 + account);
        }
        int[] others = {-1, 5, 6, LEAST, GREATEST};
        for (int what : others) {
            due("look(0, " + what + ")", x.look(0, what), -1);
            due("look(15, " + what + ")", x.look(15, what), -1);
        }
        for (int account : NO_ACCOUNTS) {
            for (int what = -1; what <= 5; what++) {
                due("look(" + account + ", " + what + ")", x.look(account, what), -1);
            }
        }
        due("look(0, 0)", x.look(0, 0), 100);
        due("look(15, 0)", x.look(15, 0), 115);
    }

    private void totals() {
        sentences.by("The sum of all balances.");
        GasLedger x = new GasLedger();
        due("of none", x.total(), 0);
        x.fund(0, 1);
        x.fund(15, 2);
        due("of the first and the last", x.total(), 3);
        GasLedger y = new GasLedger();
        enrich(y, 0, 0);
        due("the greatest int", y.total(), GREATEST);
        y.fund(1, 1);
        due("beyond the greatest int", y.total(), 2147483648L);
        enrich(y, 15, 0);
        due("twice the greatest int and 1", y.total(), 4294967295L);
        y.fund(15, 1);
        due("one that wrapped", y.total(), 0);
    }
}
