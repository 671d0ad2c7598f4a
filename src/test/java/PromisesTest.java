/** The promises one by one: ordinary inputs, the edges that the document names, wrong inputs. */
public final class PromisesTest {
    private static final int GREATEST = Integer.MAX_VALUE;
    private static final int LEAST = Integer.MIN_VALUE;
    private static final int[] NO_ACCOUNTS = {-1, 16, LEAST, GREATEST};
    private static final Checks checks = new Checks();

    public static void main(String[] args) {
        promise1NewObject();
        promise2Fund();
        promise3Code();
        promise4Preset();
        promise5Begin();
        promise5ThirtyBlocks();
        promise6Send();
        promise7Terms();
        promise8Pay();
        promise8Refusals();
        promise8LeftOfTheBlock();
        promise8Prices();
        promise9Seal();
        promise9RejectedBlock();
        promise10Look();
        promise11Slot();
        promise12Word();
        promise13Root();
        promise14Block();
        promise15Receipt();
        promise15ReceiptsThatAreNotKept();
        promise16Log();
        promise16LogsThatAreNotKept();
        promise17Total();
        checks.close();
    }

    /** A ledger with 10000 in account 0 and a block under way whose miner is 9. */
    private static GasLedger begun() {
        GasLedger x = new GasLedger();
        x.fund(0, 10000);
        x.begin(1, 9);
        return x;
    }

    /** A ledger with 10000 in account 0, a program in account 1, and a block under way whose miner is 9. */
    private static GasLedger begunWith(int... words) {
        GasLedger x = new GasLedger();
        x.fund(0, 10000);
        Words.load(x, 1, words);
        x.begin(1, 9);
        return x;
    }

    private static void promise1NewObject() {
        GasLedger x = new GasLedger();
        for (int account = 0; account < 16; account++) {
            for (int what = 0; what < 4; what++) {
                checks.due("new: look(" + account + ", " + what + ")", x.look(account, what), 0);
            }
        }
        for (int what = 0; what < 8; what++) {
            checks.due("new: block(" + what + ")", x.block(what), 0);
        }
        checks.due("new: root()", x.root(), 0);
        checks.due("new: total()", x.total(), 0);
        checks.due("new: receipt(0, 0)", x.receipt(0, 0), -1);
        checks.due("new: log(0, 0)", x.log(0, 0), -1);
        checks.due("new: seal(0)", x.seal(0), -1);
        checks.due("new: begin(1, 0)", x.begin(1, 0), true);
        GasLedger other = new GasLedger();
        other.fund(3, 4);
        checks.due("another object: look(3, 0)", x.look(3, 0), 0);
    }

    private static void promise2Fund() {
        GasLedger x = new GasLedger();
        checks.due("fund(0, 0)", x.fund(0, 0), true);
        checks.due("fund(0, 1000000)", x.fund(0, 1000000), true);
        checks.due("fund(0, 7)", x.fund(0, 7), true);
        checks.due("fund(15, 1)", x.fund(15, 1), true);
        checks.due("fund(0, 1000001)", x.fund(0, 1000001), false);
        checks.due("fund(0, -1)", x.fund(0, -1), false);
        checks.due("fund(0, least)", x.fund(0, LEAST), false);
        for (int account : NO_ACCOUNTS) {
            checks.due("fund(" + account + ", 1)", x.fund(account, 1), false);
        }
        checks.due("funded: look(0, 0)", x.look(0, 0), 1000007);
        checks.due("funded: look(15, 0)", x.look(15, 0), 1);
        checks.due("funded: total()", x.total(), 1000008);
        x.begin(1, 0);
        checks.due("fund in a block", x.fund(0, 1), false);
        x.seal(1);
        checks.due("fund behind a rejected block", x.fund(0, 1), false);
        checks.due("fund refused: look(0, 0)", x.look(0, 0), 1000007);
    }

    private static void promise3Code() {
        GasLedger x = new GasLedger();
        for (int k = 0; k < 24; k++) {
            checks.due("code(2, " + (100 - k) + ")", x.code(2, 100 - k), true);
        }
        checks.due("a 25th word", x.code(2, 5), false);
        checks.due("another account's word", x.code(3, LEAST), true);
        checks.due("code: look(2, 2)", x.look(2, 2), 24);
        checks.due("code: look(3, 2)", x.look(3, 2), 1);
        checks.due("code: word(2, 0)", x.word(2, 0), 100);
        checks.due("code: word(2, 23)", x.word(2, 23), 77);
        checks.due("code: word(3, 0)", x.word(3, 0), LEAST);
        for (int account : NO_ACCOUNTS) {
            checks.due("code(" + account + ", 1)", x.code(account, 1), false);
        }
        x.begin(1, 0);
        checks.due("code in a block", x.code(3, 1), false);
        x.seal(0);
        checks.due("code behind a block", x.code(3, 1), false);
        checks.due("code refused: look(3, 2)", x.look(3, 2), 1);
    }

    private static void promise4Preset() {
        GasLedger x = new GasLedger();
        checks.due("preset(2, 0, 5)", x.preset(2, 0, 5), true);
        checks.due("preset(2, 7, least)", x.preset(2, 7, LEAST), true);
        checks.due("preset(2, 0, 6)", x.preset(2, 0, 6), true);
        checks.due("preset(2, 7, 0)", x.preset(2, 7, 0), true);
        checks.due("preset(15, 7, -1)", x.preset(15, 7, -1), true);
        checks.due("preset(2, 8, 1)", x.preset(2, 8, 1), false);
        checks.due("preset(2, -1, 1)", x.preset(2, -1, 1), false);
        checks.due("preset(2, greatest, 1)", x.preset(2, GREATEST, 1), false);
        for (int account : NO_ACCOUNTS) {
            checks.due("preset(" + account + ", 0, 1)", x.preset(account, 0, 1), false);
        }
        checks.due("preset: slot(2, 0)", x.slot(2, 0), 6);
        checks.due("preset: slot(2, 7)", x.slot(2, 7), 0);
        checks.due("preset: slot(15, 7)", x.slot(15, 7), -1);
        checks.due("preset: slot(3, 0)", x.slot(3, 0), 0);
        x.begin(1, 0);
        checks.due("preset in a block", x.preset(2, 0, 1), false);
        x.seal(0);
        checks.due("preset behind a block", x.preset(2, 0, 1), false);
        checks.due("preset refused: slot(2, 0)", x.slot(2, 0), 6);
    }

    private static void promise5Begin() {
        GasLedger x = new GasLedger();
        checks.due("begin(0, 0)", x.begin(0, 0), false);
        checks.due("begin(least, 0)", x.begin(LEAST, 0), false);
        for (int account : NO_ACCOUNTS) {
            checks.due("begin(5, " + account + ")", x.begin(5, account), false);
        }
        checks.due("nothing begun: fund(0, 500)", x.fund(0, 500), true);
        checks.due("nothing begun: block(3)", x.block(3), 0);
        checks.due("begin(5, 15)", x.begin(5, 15), true);
        checks.due("begun: block(3)", x.block(3), 1);
        checks.due("begun: block(2)", x.block(2), 0);
        checks.due("begin(6, 15) in a block", x.begin(6, 15), false);
        x.send(0, 1, 0, 0);
        x.seal(1);
        checks.due("begin(4, 15) behind a rejected block", x.begin(4, 15), true);
        checks.due("a new block: block(4)", x.block(4), 0);
        checks.due("a new block: block(6)", x.block(6), 0);
        x.seal(0);
        checks.due("begin(4, 0) behind an accepted block", x.begin(4, 0), false);
        checks.due("begin(3, 0) behind an accepted block", x.begin(3, 0), false);
        checks.due("begin(greatest, 0)", x.begin(GREATEST, 0), true);
        x.seal(0);
        checks.due("begin behind the greatest time", x.begin(GREATEST, 0), false);
    }

    private static void promise5ThirtyBlocks() {
        GasLedger x = new GasLedger();
        for (int k = 1; k <= 30; k++) {
            checks.due("block " + k, x.begin(k, 0), true);
            x.seal(k & 1);
        }
        checks.due("a 31st block", x.begin(31, 0), false);
        checks.due("thirty blocks: block(0)", x.block(0), 15);
        checks.due("thirty blocks: block(1)", x.block(1), 15);
        checks.due("thirty blocks: look(0, 0)", x.look(0, 0), 15 * 50);
        checks.due("thirty blocks: send", x.send(0, 1, 0, 0), -1);
    }

    private static void promise6Send() {
        GasLedger x = begunWith(Words.INPUT, Words.LOG, Words.VALUE, Words.LOG, Words.GAS, Words.RETURN);
        checks.due("send", x.send(0, 1, 12, 34), 20 + 13 + 13 + 1);
        checks.due("send: receipt(0, 2)", x.receipt(0, 2), 200 - 47);
        checks.due("send: log(0, 1)", x.log(0, 1), 34);
        checks.due("send: log(1, 1)", x.log(1, 1), 12);
        checks.due("send: look(0, 0)", x.look(0, 0), 10000 - 12 - 47);
        checks.due("send: look(0, 1)", x.look(0, 1), 1);
        checks.due("send: look(1, 0)", x.look(1, 0), 12);
        checks.due("send: look(9, 0)", x.look(9, 0), 47);
        checks.due("send(-1, 1, 0, 0)", x.send(-1, 1, 0, 0), -2);
        checks.due("send(0, 16, 0, 0)", x.send(0, 16, 0, 0), -2);
        checks.due("send(0, 1, -1, 0)", x.send(0, 1, -1, 0), -2);
        checks.due("send all but 200", x.send(0, 2, 10000 - 59 - 200, 0), 20);
        checks.due("send with less than 200", x.send(0, 2, 0, 0), -6);
        checks.due("send: block(6)", x.block(6), 2);
        x = begunWith(31);
        for (int k = 0; k < 14; k++) {
            checks.due("send that uses all", x.send(0, 1, 0, 0), 200);
        }
        x.terms(100, 1, 0);
        checks.due("pay that uses all", x.pay(0, 1, 0, 0), 100);
        checks.due("send with 100 left of the block", x.send(0, 1, 0, 0), -5);
    }

    private static void promise7Terms() {
        GasLedger first = begunWith(Words.GAS, Words.RETURN);
        checks.due("no terms yet: pay", first.pay(0, 1, 0, 0), 21);
        checks.due("no terms yet: receipt(0, 2)", first.receipt(0, 2), 179);
        checks.due("no terms yet: look(9, 0)", first.look(9, 0), 21);
        GasLedger x = begunWith(Words.GAS, Words.RETURN);
        x.terms(500, 3, 0);
        checks.due("terms, then send", x.send(0, 1, 0, 0), 21);
        checks.due("send leaves them: receipt(0, 2)", x.receipt(0, 2), 179);
        checks.due("terms, then pay", x.pay(0, 1, 0, 0), 21);
        checks.due("pay uses them: receipt(1, 2)", x.receipt(1, 2), 479);
        checks.due("pay uses them: look(9, 0)", x.look(9, 0), 21 + 63);
        x.pay(0, 1, 0, 0);
        checks.due("used up: receipt(2, 2)", x.receipt(2, 2), 179);
        checks.due("used up: look(9, 0)", x.look(9, 0), 21 + 63 + 21);
        x.terms(500, 3, 1);
        x.terms(600, 2, 0);
        x.pay(0, 1, 0, 0);
        checks.due("the later terms: receipt(3, 2)", x.receipt(3, 2), 579);
        x.terms(500, 3, 1);
        checks.due("terms with another nonce: pay", x.pay(0, 1, 0, 0), -3);
        checks.due("used up by a refused pay", x.pay(0, 1, 0, 0), 21);
        x.terms(500, 3, 0);
        checks.due("terms, then a wrong sender: pay", x.pay(16, 1, 0, 0), -2);
        x.pay(0, 1, 0, 0);
        checks.due("used up by a wrong sender: receipt(5, 2)", x.receipt(5, 2), 179);
        x.terms(700, 1, 0);
        x.seal(0);
        x.begin(2, 9);
        x.pay(0, 1, 0, 0);
        checks.due("terms outlast a block: receipt(0, 2)", x.receipt(0, 2), 679);
        x.seal(0);
        x.terms(700, 1, 0);
        checks.due("pay with no block", x.pay(0, 1, 0, 0), -1);
        x.begin(3, 9);
        x.pay(0, 1, 0, 0);
        checks.due("used up with no block: receipt(0, 2)", x.receipt(0, 2), 179);
        GasLedger y = new GasLedger();
        y.terms(19, 1, 0);
        y.fund(0, 1000);
        y.begin(1, 9);
        checks.due("terms before the first block", y.pay(0, 1, 0, 0), -4);
    }

    private static void promise8Pay() {
        GasLedger x = begunWith(Words.join(Words.store(0, 5), Words.words(Words.push(6), Words.RETURN)));
        x.terms(1000, 7, 0);
        checks.due("pay", x.pay(0, 1, 40, 0), 63);
        checks.due("pay: look(0, 0)", x.look(0, 0), 10000 - 40 - 7 * 63);
        checks.due("pay: look(0, 1)", x.look(0, 1), 1);
        checks.due("pay: look(1, 0)", x.look(1, 0), 40);
        checks.due("pay: look(1, 1)", x.look(1, 1), 0);
        checks.due("pay: look(9, 0)", x.look(9, 0), 7 * 63);
        checks.due("pay: block(4)", x.block(4), 63);
        x.terms(50, 7, 0);
        checks.due("pay for too little", x.pay(0, 1, 40, 0), 33);
        x.terms(32, 7, 0);
        checks.due("pay for less than that", x.pay(0, 1, 40, 0), 32);
        checks.due("too little: receipt(2, 0)", x.receipt(2, 0), 0);
        checks.due("too little: look(1, 0)", x.look(1, 0), 80);
        checks.due("too little: look(0, 1)", x.look(0, 1), 3);
        checks.due("pay to itself", x.pay(0, 0, 100, 0), 20);
        checks.due("pay to the miner", x.pay(0, 9, 100, 0), 20);
        checks.due("paid: look(9, 0)", x.look(9, 0), 7 * (63 + 33 + 32) + 40 + 100);
        checks.due("paid: total()", x.total(), 10000);
        GasLedger y = begun();
        y.terms(300, 0, 0);
        checks.due("pay with the price 0", y.pay(0, 1, 10000, 0), 20);
        checks.due("the price 0: look(9, 0)", y.look(9, 0), 0);
        checks.due("the price 0: look(0, 0)", y.look(0, 0), 0);
    }

    private static void refusedDue(GasLedger x, int limit, int price, int off, int value, int want) {
        int before = x.root();
        x.terms(limit, price, off);
        String name = "pay(0, 1, " + value + ", 0) with " + limit + ", " + price + ", " + off;
        checks.due(name, x.pay(0, 1, value, 0), want);
        checks.due(name + ": root()", x.root(), before);
        checks.due(name + ": block(6)", x.block(6), 0);
        checks.due(name + ": block(4)", x.block(4), 0);
    }

    private static void promise8Refusals() {
        GasLedger none = new GasLedger();
        none.fund(0, 10000);
        refusedDue(none, 19, 101, 1, -1, -1);
        GasLedger x = begun();
        refusedDue(x, 19, 101, 1, -1, -2);
        refusedDue(x, 19, 101, 1, LEAST, -2);
        refusedDue(x, 19, 101, 1, GREATEST, -3);
        refusedDue(x, 200, 1, -1, 0, -3);
        refusedDue(x, 200, 1, LEAST, 0, -3);
        refusedDue(x, 19, 1, 0, 0, -4);
        refusedDue(x, 3001, 1, 0, 0, -4);
        refusedDue(x, LEAST, 1, 0, 0, -4);
        refusedDue(x, GREATEST, 1, 0, 0, -4);
        refusedDue(x, 200, -1, 0, 0, -4);
        refusedDue(x, 200, 101, 0, 0, -4);
        refusedDue(x, 200, LEAST, 0, GREATEST, -4);
        refusedDue(x, 3001, 1, 0, GREATEST, -4);
        refusedDue(x, 200, 1, 0, 9801, -6);
        refusedDue(x, 200, 51, 0, 0, -6);
        refusedDue(x, 200, 1, 0, GREATEST, -6);
        refusedDue(x, 3000, 100, 0, GREATEST, -6);
        for (int account : NO_ACCOUNTS) {
            checks.due("pay(" + account + ", 1, 0, 0)", x.pay(account, 1, 0, 0), -2);
            checks.due("pay(0, " + account + ", 0, 0)", x.pay(0, account, 0, 0), -2);
        }
        checks.due("pay of an empty account", x.pay(5, 1, 0, 0), -6);
        x.terms(20, 0, 0);
        checks.due("an empty account with the price 0", x.pay(5, 1, 0, 0), 20);
        checks.due("an empty account with the price 0: look(5, 1)", x.look(5, 1), 1);
        x.terms(200, 50, 0);
        checks.due("pay with just enough", x.pay(0, 1, 0, 0), 20);
    }

    private static void promise8LeftOfTheBlock() {
        GasLedger x = begunWith(31);
        x.terms(1000, 0, 0);
        checks.due("1000 of 3000", x.pay(0, 1, 0, 0), 1000);
        x.terms(2000, 0, 0);
        checks.due("a limit of 2000, 20 used", x.pay(0, 2, 0, 0), 20);
        x.terms(1981, 0, 0);
        checks.due("a limit of 1981 with 1980 left", x.pay(0, 2, 10001, 0), -5);
        x.terms(1980, 0, 0);
        checks.due("a limit of 1980 with 1980 left", x.pay(0, 1, 0, 0), 1980);
        checks.due("all used: block(4)", x.block(4), 3000);
        x.terms(20, 0, 0);
        checks.due("nothing left", x.pay(0, 2, 0, 0), -5);
        x.seal(0);
        x.begin(2, 9);
        x.terms(3000, 0, 0);
        checks.due("a new block", x.pay(0, 1, 0, 0), 3000);
        checks.due("a new block: block(4)", x.block(4), 3000);
    }

    private static void promise8Prices() {
        GasLedger x = new GasLedger();
        x.fund(0, 300000);
        x.fund(2, 299999);
        Words.load(x, 1, 31);
        x.begin(1, 9);
        x.terms(3000, 100, 0);
        checks.due("the greatest limit and price, 1 too little", x.pay(2, 1, 0, 0), -6);
        x.terms(3000, 100, 0);
        checks.due("the greatest limit and price", x.pay(0, 1, 0, 0), 3000);
        checks.due("the greatest limit and price: look(0, 0)", x.look(0, 0), 0);
        checks.due("the greatest limit and price: look(9, 0)", x.look(9, 0), 300000);
    }

    private static void promise9Seal() {
        GasLedger x = begun();
        x.send(0, 1, 5, 0);
        int before = x.root();
        checks.due("seal(0)", x.seal(0), 1);
        checks.due("accepted: look(9, 0)", x.look(9, 0), 70);
        checks.due("accepted: look(1, 0)", x.look(1, 0), 5);
        checks.due("accepted: another root", x.root() != before, true);
        checks.due("accepted: block(3)", x.block(3), 0);
        checks.due("seal(0) again", x.seal(0), -1);
        checks.due("seal(1) again", x.seal(1), -1);
        checks.due("refused: block(0)", x.block(0), 1);
        checks.due("refused: block(1)", x.block(1), 0);
        checks.due("refused: look(9, 0)", x.look(9, 0), 70);
        int[] shifts = {1, -1, LEAST, GREATEST, 65536};
        int root = x.root();
        for (int shift : shifts) {
            x.begin(2, 9);
            checks.due("seal(" + shift + ")", x.seal(shift), 0);
            checks.due("seal(" + shift + "): root()", x.root(), root);
        }
        checks.due("rejected: block(1)", x.block(1), 5);
        checks.due("rejected: block(2)", x.block(2), 1);
    }

    private static void promise9RejectedBlock() {
        GasLedger x = new GasLedger();
        x.fund(0, 10000);
        Words.load(x, 1, Words.join(Words.store(0, 0), Words.create(3, 0, 2), Words.words(Words.push(4), Words.END)));
        x.fund(1, 8);
        x.preset(1, 0, 5);
        x.preset(1, 7, 6);
        x.begin(1, 9);
        x.send(0, 2, 30, 0);
        x.seal(0);
        int root = x.root();
        x.begin(2, 3);
        x.send(0, 1, 1, 0);
        checks.due("before it is rejected: look(1, 2)", x.look(1, 2), 0);
        checks.due("before it is rejected: look(4, 0)", x.look(4, 0), 6);
        checks.due("before it is rejected: look(3, 1)", x.look(3, 1), 1);
        checks.due("seal(7)", x.seal(7), 0);
        checks.due("rejected: root()", x.root(), root);
        checks.due("rejected: look(0, 0)", x.look(0, 0), 10000 - 50);
        checks.due("rejected: look(0, 1)", x.look(0, 1), 1);
        checks.due("rejected: look(1, 0)", x.look(1, 0), 8);
        checks.due("rejected: look(1, 2)", x.look(1, 2), 9);
        checks.due("rejected: word(1, 8)", x.word(1, 8), Words.END);
        checks.due("rejected: slot(1, 0)", x.slot(1, 0), 5);
        checks.due("rejected: slot(1, 7)", x.slot(1, 7), 6);
        checks.due("rejected: look(3, 2)", x.look(3, 2), 0);
        checks.due("rejected: word(3, 0)", x.word(3, 0), 0);
        checks.due("rejected: look(2, 0)", x.look(2, 0), 30);
        checks.due("rejected: receipt(0, 0)", x.receipt(0, 0), 1);
        checks.due("rejected: block(6)", x.block(6), 1);
        checks.due("rejected: block(2)", x.block(2), 1);
    }

    private static void promise10Look() {
        GasLedger x = new GasLedger();
        int empty = LedgerModel.mix(LedgerModel.mix(LedgerModel.mix(LedgerModel.mix(4, 0), 0), 5), 0);
        checks.due("empty: look(3, 4)", x.look(3, 4), empty);
        x.fund(3, 11);
        x.code(3, 31);
        x.code(3, 9);
        x.preset(3, 5, 7);
        int slots = LedgerModel.mix(LedgerModel.mix(1, 8 + 5), 7);
        int code = LedgerModel.mix(LedgerModel.mix(5, 31), 9);
        int value = LedgerModel.mix(LedgerModel.mix(LedgerModel.mix(LedgerModel.mix(4, 11), 0), code), slots);
        checks.due("look(3, 0)", x.look(3, 0), 11);
        checks.due("look(3, 1)", x.look(3, 1), 0);
        checks.due("look(3, 2)", x.look(3, 2), 2);
        checks.due("look(3, 3)", x.look(3, 3), slots);
        checks.due("look(3, 4)", x.look(3, 4), value);
        checks.due("look(3, 5)", x.look(3, 5), -1);
        checks.due("look(3, -1)", x.look(3, -1), -1);
        checks.due("look(3, greatest)", x.look(3, GREATEST), -1);
        for (int account : NO_ACCOUNTS) {
            for (int what = -1; what < 6; what++) {
                checks.due("look(" + account + ", " + what + ")", x.look(account, what), -1);
            }
        }
        GasLedger y = begun();
        y.send(0, 1, 0, 0);
        y.send(0, 1, 0, 0);
        checks.due("sent twice: look(0, 1)", y.look(0, 1), 2);
        int paid = LedgerModel.mix(LedgerModel.mix(LedgerModel.mix(LedgerModel.mix(4, 9960), 2), 5), 0);
        checks.due("sent twice: look(0, 4)", y.look(0, 4), paid);
    }

    private static void promise11Slot() {
        GasLedger x = new GasLedger();
        for (int k = 0; k < 8; k++) {
            x.preset(4, k, 40 + k);
            x.preset(15, k, 150 + k);
        }
        for (int k = 0; k < 8; k++) {
            checks.due("slot(4, " + k + ")", x.slot(4, k), 40 + k);
            checks.due("slot(15, " + k + ")", x.slot(15, k), 150 + k);
        }
        checks.due("slot(4, 8)", x.slot(4, 8), 0);
        checks.due("slot(4, -1)", x.slot(4, -1), 0);
        checks.due("slot(3, 8)", x.slot(3, 8), 0);
        checks.due("slot(5, -1)", x.slot(5, -1), 0);
        checks.due("slot(4, least)", x.slot(4, LEAST), 0);
        checks.due("slot(4, greatest)", x.slot(4, GREATEST), 0);
        for (int account : NO_ACCOUNTS) {
            checks.due("slot(" + account + ", 0)", x.slot(account, 0), 0);
        }
    }

    private static void promise12Word() {
        GasLedger x = new GasLedger();
        Words.load(x, 4, 7, -8, 9);
        Words.load(x, 5, 1);
        checks.due("word(4, 0)", x.word(4, 0), 7);
        checks.due("word(4, 1)", x.word(4, 1), -8);
        checks.due("word(4, 2)", x.word(4, 2), 9);
        checks.due("word(4, 3)", x.word(4, 3), 0);
        checks.due("word(4, 24)", x.word(4, 24), 0);
        checks.due("word(4, -1)", x.word(4, -1), 0);
        checks.due("word(5, -24)", x.word(5, -24), 0);
        checks.due("word(3, 24)", x.word(3, 24), 0);
        checks.due("word(4, greatest)", x.word(4, GREATEST), 0);
        checks.due("word(4, least)", x.word(4, LEAST), 0);
        for (int account : NO_ACCOUNTS) {
            checks.due("word(" + account + ", 0)", x.word(account, 0), 0);
        }
    }

    private static void promise13Root() {
        GasLedger x = new GasLedger();
        checks.due("root() of nothing", x.root(), 0);
        x.fund(6, 0);
        checks.due("root() of empty accounts", x.root(), 0);
        x.fund(6, 1);
        checks.due("root() of one", x.root(), LedgerModel.mix(LedgerModel.mix(1, 16 + 6), x.look(6, 4)));
        x.code(7, 0);
        int six = LedgerModel.mix(LedgerModel.mix(1, 1), x.look(6, 4));
        int seven = LedgerModel.mix(LedgerModel.mix(1, 1), x.look(7, 4));
        int both = LedgerModel.mix(LedgerModel.mix(3, six), seven);
        checks.due("root() of neighbours", x.root(), LedgerModel.mix(LedgerModel.mix(2, 8 + 3), both));
        x.preset(9, 2, 2);
        int low = LedgerModel.mix(LedgerModel.mix(2, 4 + 3), both);
        int nine = LedgerModel.mix(LedgerModel.mix(1, 8 + 1), x.look(9, 4));
        checks.due("root() of three", x.root(), LedgerModel.mix(LedgerModel.mix(3, low), nine));
        int before = x.root();
        x.preset(9, 2, 0);
        x.preset(10, 2, 0);
        checks.due("root() of two again", x.root(), LedgerModel.mix(LedgerModel.mix(2, 8 + 3), both));
        x.preset(9, 2, 2);
        checks.due("root() of three again", x.root(), before);
        x.begin(1, 0);
        x.terms(20, 0, 0);
        x.pay(12, 9, 0, 0);
        checks.due("root() in a block, with a nonce more", x.root() != before, true);
        x.seal(5);
        checks.due("root() behind a rejected block", x.root(), before);
    }

    private static void promise14Block() {
        GasLedger x = begunWith(Words.INPUT, Words.LOG);
        x.send(0, 1, 0, 7);
        x.send(0, 1, 0, 40);
        x.send(0, 2, 0, 0);
        int bloom = 1 << 7 | 1 << (LedgerModel.mix(6, 7) & 31) | 1 << 8 | 1 << (LedgerModel.mix(6, 40) & 31);
        int[] underWay = {0, 0, 0, 1, 33 + 33 + 20, bloom, 3, 2};
        int[] sealed = {1, 0, 1, 0, 86, bloom, 3, 2};
        int[] next = {1, 0, 1, 1, 0, 0, 0, 0};
        int[] rejected = {1, 1, 1, 0, 33, 1 << 31 | 1 << (LedgerModel.mix(6, -1) & 31), 1, 1};
        blockDue("under way", x, underWay);
        x.seal(0);
        blockDue("sealed", x, sealed);
        x.begin(5, 2);
        blockDue("the next one", x, next);
        x.send(0, 1, 0, -1);
        x.seal(9);
        blockDue("rejected", x, rejected);
        int[] others = {-1, 8, LEAST, GREATEST};
        for (int what : others) {
            checks.due("block(" + what + ")", x.block(what), -1);
        }
    }

    private static void blockDue(String name, GasLedger x, int[] want) {
        for (int what = 0; what < want.length; what++) {
            checks.due(name + ": block(" + what + ")", x.block(what), want[what]);
        }
    }

    private static void promise15Receipt() {
        GasLedger x = begunWith(Words.INPUT, Words.dup(0), Words.LOG, Words.dup(0), Words.push(7), Words.JUMPIF,
            Words.REVERT, Words.dup(0), Words.LOG, Words.RETURN);
        x.send(0, 1, 0, 5);
        x.send(0, 1, 0, 0);
        x.send(20, 1, 0, 0);
        x.send(0, 3, 0, 0);
        int[][] want = {{1, 20 + 14 + 6 + 13, 5, 2}, {0, 20 + 14 + 6, 0, 0}, {1, 20, 0, 0}};
        for (int k = 0; k < 3; k++) {
            for (int what = 0; what < 4; what++) {
                checks.due("receipt(" + k + ", " + what + ")", x.receipt(k, what), want[k][what]);
            }
            checks.due("receipt(" + k + ", 4)", x.receipt(k, 4), -1);
            checks.due("receipt(" + k + ", -1)", x.receipt(k, -1), -1);
        }
        checks.due("receipt(3, 0)", x.receipt(3, 0), -1);
        checks.due("receipt(-1, 0)", x.receipt(-1, 0), -1);
        checks.due("receipt(least, 0)", x.receipt(LEAST, 0), -1);
        checks.due("receipt(greatest, 0)", x.receipt(GREATEST, 0), -1);
        x.seal(1);
        checks.due("rejected: receipt(0, 1)", x.receipt(0, 1), 53);
        x.begin(1, 2);
        checks.due("a new block: receipt(0, 1)", x.receipt(0, 1), -1);
    }

    private static void promise15ReceiptsThatAreNotKept() {
        GasLedger x = begunWith(Words.INPUT, Words.RETURN);
        for (int k = 0; k < 18; k++) {
            x.terms(25, 1, 0);
            x.pay(0, 1, 0, 100 + k);
        }
        checks.due("18 receipts: block(6)", x.block(6), 18);
        checks.due("18 receipts: block(4)", x.block(4), 18 * 21);
        checks.due("18 receipts: receipt(0, 2)", x.receipt(0, 2), 100);
        checks.due("18 receipts: receipt(15, 2)", x.receipt(15, 2), 115);
        checks.due("18 receipts: receipt(16, 2)", x.receipt(16, 2), -1);
        checks.due("18 receipts: receipt(17, 0)", x.receipt(17, 0), -1);
    }

    private static void promise16Log() {
        GasLedger x = begunWith(Words.join(Words.words(Words.INPUT, Words.LOG), Words.call(50, 2, 0, 9),
            Words.words(Words.push(-3), Words.LOG)));
        checks.due("log(0, 0) of none", x.log(0, 0), -1);
        x.send(0, 1, 0, LEAST);
        x.send(0, 1, 0, 0);
        checks.due("log(0, 0)", x.log(0, 0), 1);
        checks.due("log(0, 1)", x.log(0, 1), LEAST);
        checks.due("log(1, 1)", x.log(1, 1), -3);
        checks.due("log(2, 1)", x.log(2, 1), 0);
        checks.due("log(3, 0)", x.log(3, 0), 1);
        checks.due("log(4, 0)", x.log(4, 0), -1);
        checks.due("log(-1, 0)", x.log(-1, 0), -1);
        checks.due("log(0, 2)", x.log(0, 2), -1);
        checks.due("log(0, -1)", x.log(0, -1), -1);
        checks.due("log(least, 0)", x.log(LEAST, 0), -1);
        checks.due("log(greatest, 0)", x.log(GREATEST, 0), -1);
        x.seal(1);
        checks.due("rejected: log(1, 1)", x.log(1, 1), -3);
        x.begin(1, 2);
        checks.due("a new block: log(0, 0)", x.log(0, 0), -1);
    }

    /** Account 1 logs five times; account 2 logs once and, with an input of 0, takes it back. */
    private static void promise16LogsThatAreNotKept() {
        GasLedger x = new GasLedger();
        x.fund(0, 10000);
        Words.load(x, 1, Words.push(4), Words.LOG, Words.push(4), Words.LOG, Words.push(4), Words.LOG, Words.push(4),
            Words.LOG, Words.push(4), Words.LOG);
        Words.load(x, 2, Words.push(17), Words.LOG, Words.INPUT, Words.push(6), Words.JUMPIF, 31, Words.STOP);
        x.begin(1, 9);
        x.send(0, 1, 0, 0);
        x.send(0, 1, 0, 0);
        x.send(0, 1, 0, 0);
        int fours = x.block(5);
        checks.due("the bloom of fours", fours, LedgerModel.bloomOf(4));
        x.send(0, 2, 0, 0);
        checks.due("a 16th log taken back: block(7)", x.block(7), 15);
        checks.due("a 16th log taken back: block(5)", x.block(5), fours);
        checks.due("a 16th log taken back: log(15, 1)", x.log(15, 1), -1);
        x.send(0, 2, 0, 1);
        checks.due("a 16th log: log(15, 0)", x.log(15, 0), 2);
        checks.due("a 16th log: log(15, 1)", x.log(15, 1), 17);
        GasLedger y = new GasLedger();
        y.fund(0, 10000);
        Words.load(y, 1, Words.INPUT, Words.LOG, Words.INPUT, Words.LOG, Words.INPUT, Words.LOG, Words.INPUT, Words.LOG,
            Words.INPUT, Words.LOG, Words.INPUT, Words.LOG);
        y.begin(1, 9);
        y.send(0, 1, 0, 1);
        y.send(0, 1, 0, 2);
        y.send(0, 1, 0, 3);
        y.send(0, 1, 0, 11);
        checks.due("24 logs: block(7)", y.block(7), 24);
        checks.due("24 logs: log(15, 1)", y.log(15, 1), 3);
        checks.due("24 logs: log(16, 1)", y.log(16, 1), -1);
        checks.due("24 logs: log(23, 0)", y.log(23, 0), -1);
        checks.due("24 logs: receipt(3, 3)", y.receipt(3, 3), 6);
        int all = LedgerModel.bloomOf(1) | LedgerModel.bloomOf(2) | LedgerModel.bloomOf(3) | LedgerModel.bloomOf(11);
        checks.due("24 logs: block(5)", y.block(5), all);
    }

    private static void promise17Total() {
        GasLedger x = new GasLedger();
        checks.due("total() of nothing", x.total(), 0);
        for (int account = 0; account < 16; account++) {
            x.fund(account, 1 << account);
        }
        checks.due("total() of all", x.total(), 65535);
        GasLedger rich = new GasLedger();
        // More calls than an object is promised for: only so many make the sum greater than an int.
        for (int k = 0; k < 16 * 200; k++) {
            rich.fund(k & 15, 1000000);
        }
        checks.due("total() beyond the ints", rich.total(), 3200000000L);
        x.begin(1, 3);
        x.send(14, 5, 100, 0);
        checks.due("total() in a block", x.total(), 65535);
        x.seal(0);
        checks.due("total() behind a block", x.total(), 65585);
        x.begin(2, 3);
        x.seal(1);
        checks.due("total() behind a rejected block", x.total(), 65585);
    }
}
