import java.util.ArrayList;
import java.util.List;
import java.util.Map;
import java.util.Random;
import java.util.TreeMap;

/** Many runs of calls, always the same ones, on the program and on the model side by side. */
public final class ModelTest {
    private static final int RUNS = 4000;
    private static final int MOST_CALLS = 512;
    private static final Checks checks = new Checks();
    private static final Map<String, Integer> seen = new TreeMap<>();

    private final Random random;
    private final GasLedger ledger = new GasLedger();
    private final LedgerModel model = new LedgerModel();
    private final String name;
    private int calls;
    private int time;

    private ModelTest(int run) {
        random = new Random(run);
        name = "run " + run + ": ";
    }

    public static void main(String[] args) {
        for (int run = 0; run < RUNS && checks.wrong() < 20; run++) {
            ModelTest test = new ModelTest(run);
            test.go();
            test.model.seen.forEach((what, count) -> seen.merge(what, count, Integer::sum));
        }
        everythingWasMet();
        checks.close();
    }

    /** A test that never met a thing says nothing of it. */
    private static void everythingWasMet() {
        List<String> wanted = new ArrayList<>(List.of("created", "not created", "no frame", "ninth frame", "gone",
            "refund above half", "refund undone", "logs undone", "going undone", "transaction not well"));
        for (int operation = 0; operation < 32; operation++) {
            wanted.add("operation " + operation);
        }
        for (int depth = 1; depth <= 8; depth++) {
            wanted.add("frame at depth " + depth);
        }
        for (int answer = -6; answer <= -1; answer++) {
            wanted.add("pay " + answer);
        }
        for (String what : wanted) {
            checks.due("met often enough: " + what, seen.getOrDefault(what, 0) >= 50, true);
        }
    }

    private boolean chance(int percent) {
        return random.nextInt(100) < percent;
    }

    private int account() {
        return chance(2) ? anyInt() : random.nextInt(16);
    }

    /** One of the few accounts that most of a run is about. */
    private int busyAccount() {
        return chance(85) ? random.nextInt(5) : account();
    }

    private int slotNumber() {
        return chance(2) ? anyInt() : random.nextInt(8);
    }

    private int anyInt() {
        switch (random.nextInt(5)) {
            case 0: return random.nextInt();
            case 1: return Integer.MIN_VALUE + random.nextInt(3);
            case 2: return Integer.MAX_VALUE - random.nextInt(3);
            case 3: return 16 + random.nextInt(3);
            default: return -1 - random.nextInt(3);
        }
    }

    private void go() {
        setUp();
        while (calls < MOST_CALLS) {
            oneCall();
        }
    }

    private void setUp() {
        int funded = 2 + random.nextInt(4);
        for (int k = 0; k < funded; k++) {
            fund(busyAccount(), chance(50) ? random.nextInt(500) : random.nextInt(1000001));
        }
        fund(0, 300000);
        fund(account(), chance(10) ? anyInt() : 3);
        int programs = 1 + random.nextInt(5);
        for (int k = 0; k < programs; k++) {
            program(random.nextInt(5));
        }
        int slots = random.nextInt(8);
        for (int k = 0; k < slots; k++) {
            int account = busyAccount();
            int slot = slotNumber();
            int v = chance(20) ? 0 : random.nextInt(100);
            due("preset(" + account + ", " + slot + ", " + v + ")", ledger.preset(account, slot, v),
                model.preset(account, slot, v));
        }
        if (chance(20)) {
            slotsToEmpty(busyAccount());
        }
        if (chance(15)) {
            for (int account = 5; account < 16; account++) {
                fund(account, 1);
            }
        }
        due("root()", ledger.root(), model.root());
    }

    /** A program that empties slots gets the more back the fewer other words it has. */
    private void slotsToEmpty(int account) {
        for (int slot = 0; slot < 4; slot++) {
            due("preset(" + account + ", " + slot + ", 1)", ledger.preset(account, slot, 1),
                model.preset(account, slot, 1));
            for (int word : Words.store(slot, 0)) {
                due("code(" + account + ", " + word + ")", ledger.code(account, word), model.code(account, word));
            }
        }
    }

    private void due(String call, long got, long want) {
        calls++;
        checks.due(name + call, got, want);
    }

    private void due(String call, boolean got, boolean want) {
        due(call, got ? 1 : 0, want ? 1 : 0);
    }

    private void fund(int account, int amount) {
        due("fund(" + account + ", " + amount + ")", ledger.fund(account, amount), model.fund(account, amount));
    }

    private void program(int account) {
        List<Integer> words = new ArrayList<>();
        int length = chance(10) ? 26 : 4 + random.nextInt(20);
        while (words.size() < length) {
            addWords(words);
        }
        for (int word : words) {
            due("code(" + account + ", " + word + ")", ledger.code(account, word), model.code(account, word));
        }
    }

    private static void add(List<Integer> words, int... more) {
        for (int word : more) {
            words.add(word);
        }
    }

    private int gasToGive() {
        return chance(10) ? -1 : chance(50) ? 2999 : random.nextInt(400);
    }

    private void addWords(List<Integer> words) {
        switch (random.nextInt(22)) {
            case 0, 1, 2 -> add(words, Words.store(slotNumber(), chance(40) ? 0 : random.nextInt(9)));
            case 3, 4 -> add(words, Words.call(gasToGive(), busyAccount(), chance(40) ? 0 : random.nextInt(40) - 1, 3));
            case 5 -> add(words, Words.INPUT, Words.push(chance(60) ? 0 : 2), Words.SELF, Words.GAS, Words.CALL);
            case 6 -> add(words, Words.delegate(gasToGive(), busyAccount(), random.nextInt(5)));
            case 7 -> add(words,
                Words.create(chance(50) ? 0 : random.nextInt(40) - 1, random.nextInt(5), random.nextInt(6)));
            case 8 -> add(words, Words.push(busyAccount()), Words.END);
            case 9, 10 -> add(words, Words.INPUT, Words.dup(0), Words.LOG);
            case 11 -> add(words, Words.push(random.nextInt(50)), chance(50) ? Words.REVERT : Words.RETURN);
            case 12 -> add(words, Words.INPUT, Words.push(words.size() + 2 + random.nextInt(9)), Words.JUMPIF);
            case 13 -> add(words, Words.push(words.size() + 2 + random.nextInt(5)), Words.JUMP);
            case 14 -> add(words, Words.push(account()), Words.BALANCE);
            case 15 -> add(words, Words.push(slotNumber()), Words.LOAD);
            case 16 -> add(words, Words.keep(slotNumber()));
            case 17 -> add(words, chance(50) ? Words.dup(random.nextInt(3)) : Words.swap(random.nextInt(3)));
            case 18 -> add(words, Words.INPUT, Words.push(random.nextInt(4) - 1), 5 + random.nextInt(6));
            case 19 -> add(words, 5 + random.nextInt(7));
            case 20 -> add(words, 17 + random.nextInt(5));
            default -> add(words, chance(30) ? random.nextInt() : random.nextInt(32));
        }
    }

    private void oneCall() {
        int kind = random.nextInt(100);
        if (model.block(3) == 0 && kind < 29 || kind == 99) {
            begin();
        } else if (kind < 30) {
            transaction();
        } else if (kind < 33) {
            seal();
        } else if (kind < 35) {
            refusedSetting();
        } else {
            question();
        }
    }

    private void begin() {
        int newTime = chance(90) ? ++time : chance(50) ? anyInt() % 1000 : time;
        int miner = chance(50) ? account() : busyAccount();
        due("begin(" + newTime + ", " + miner + ")", ledger.begin(newTime, miner), model.begin(newTime, miner));
        time = Math.max(time, newTime);
    }

    private void transaction() {
        int from = chance(80) ? 0 : busyAccount();
        int to = busyAccount();
        int value = chance(60) ? 0 : chance(95) ? random.nextInt(60) : anyInt();
        int input = chance(80) ? random.nextInt(4) : anyInt();
        String what = "(" + from + ", " + to + ", " + value + ", " + input + ")";
        if (chance(30)) {
            due("send" + what, ledger.send(from, to, value, input), model.send(from, to, value, input));
        } else {
            if (chance(90)) {
                terms();
            }
            int answer = model.pay(from, to, value, input);
            due("pay" + what, ledger.pay(from, to, value, input), answer);
            seen.merge("pay " + answer, 1, Integer::sum);
        }
        afterwards();
    }

    private void terms() {
        int usual = 20 + random.nextInt(chance(50) ? 2981 : 300);
        int limit = chance(3) ? anyInt() : chance(5) ? 19 + random.nextInt(2) : usual;
        int price = chance(3) ? anyInt() : chance(5) ? 100 + random.nextInt(2) : random.nextInt(3);
        int off = chance(3) ? anyInt() : 0;
        ledger.terms(limit, price, off);
        model.terms(limit, price, off);
        calls++;
    }

    private void afterwards() {
        due("root()", ledger.root(), model.root());
        due("total()", ledger.total(), model.total());
        int last = model.block(6) - 1;
        for (int what = 0; what < 4; what++) {
            due("receipt(" + last + ", " + what + ")", ledger.receipt(last, what), model.receipt(last, what));
        }
        for (int what = 4; what < 8; what++) {
            due("block(" + what + ")", ledger.block(what), model.block(what));
        }
    }

    private void seal() {
        int shift = chance(60) ? 0 : chance(50) ? 1 : anyInt();
        due("seal(" + shift + ")", ledger.seal(shift), model.seal(shift));
        due("root()", ledger.root(), model.root());
    }

    private void refusedSetting() {
        int account = account();
        switch (random.nextInt(3)) {
            case 0 -> fund(account, 5);
            case 1 -> due("code(" + account + ", 5)", ledger.code(account, 5), model.code(account, 5));
            default -> due("preset(" + account + ", 1, 5)", ledger.preset(account, 1, 5), model.preset(account, 1, 5));
        }
    }

    private void question() {
        int a = account();
        int k = chance(5) ? anyInt() : random.nextInt(24);
        int what = chance(5) ? anyInt() : random.nextInt(9);
        String at = "(" + k + ", " + what + ")";
        switch (random.nextInt(8)) {
            case 0, 1 -> due("look(" + a + ", " + what + ")", ledger.look(a, what), model.look(a, what));
            case 2 -> due("slot(" + a + ", " + k + ")", ledger.slot(a, k), model.slot(a, k));
            case 3 -> due("word(" + a + ", " + k + ")", ledger.word(a, k), model.word(a, k));
            case 4 -> due("block(" + what + ")", ledger.block(what), model.block(what));
            case 5 -> due("receipt" + at, ledger.receipt(k, what), model.receipt(k, what));
            case 6 -> due("log" + at, ledger.log(k, what), model.log(k, what));
            default -> due("total()", ledger.total(), model.total());
        }
    }
}
