import java.util.ArrayList;
import java.util.Arrays;
import java.util.List;
import java.util.Map;
import java.util.TreeMap;
import java.util.TreeSet;

/**
 * The document once more, written for plainness alone: frames are calls of run() inside one another,
 * failing is an exception, undoing is going back to a copy, and keys are texts of 0 and 1.
 */
final class LedgerModel {
    private static final class Account {
        int balance;
        int nonce;
        List<Integer> code = new ArrayList<>();
        int[] slots = new int[8];

        Account copy() {
            Account other = new Account();
            other.balance = balance;
            other.nonce = nonce;
            other.code = new ArrayList<>(code);
            other.slots = slots.clone();
            return other;
        }

        boolean isEmpty() {
            return balance == 0 && nonce == 0 && code.isEmpty() && Arrays.equals(slots, new int[8]);
        }

        int slotsRoot() {
            TreeMap<String, Integer> map = new TreeMap<>();
            for (int k = 0; k < 8; k++) {
                if (slots[k] != 0) {
                    map.put(bits(k, 3), slots[k]);
                }
            }
            return rootOf(map);
        }

        int number() {
            int codeNumber = 5;
            for (int word : code) {
                codeNumber = mix(codeNumber, word);
            }
            return mix(mix(mix(mix(4, balance), nonce), codeNumber), slotsRoot());
        }
    }

    /** All that a failing frame takes back. */
    private static final class State {
        List<Account> accounts = new ArrayList<>();
        List<int[]> logs = new ArrayList<>();
        TreeSet<Integer> toGo = new TreeSet<>();
        int refund;

        State copy() {
            State other = new State();
            for (Account account : accounts) {
                other.accounts.add(account.copy());
            }
            other.logs = new ArrayList<>(logs);
            other.toGo = new TreeSet<>(toGo);
            other.refund = refund;
            return other;
        }
    }

    private static final class Failure extends RuntimeException {
        private static final long serialVersionUID = 1L;
    }

    private static final class Frame {
        int self;
        List<Integer> code;
        int place;
        int caller;
        int value;
        int input;
        int gas;
        List<Integer> stack = new ArrayList<>();
        int output;
        boolean well;

        int pop() {
            if (stack.isEmpty()) {
                throw new Failure();
            }
            return stack.remove(stack.size() - 1);
        }

        int peek(int below) {
            if (below < 0 || below >= stack.size()) {
                throw new Failure();
            }
            return stack.get(stack.size() - 1 - below);
        }

        void push(int x) {
            if (stack.size() == 12) {
                throw new Failure();
            }
            stack.add(x);
        }

        void take(int price) {
            if (gas < price) {
                throw new Failure();
            }
            gas -= price;
        }

        void jump(int to) {
            if (to < 0 || to >= code.size()) {
                throw new Failure();
            }
            place = to;
        }
    }

    private State state = new State();
    private List<Account> atBegin;
    private final List<int[]> receipts = new ArrayList<>();
    private int[] terms = {200, 1, 0};
    private boolean open;
    private int time;
    private int miner;
    private int used;
    private int begun;
    private int accepted;
    private int rejected;
    private int latest;
    /** How often something was seen, so that a test can tell whether it met it at all. */
    final Map<String, Integer> seen = new TreeMap<>();

    LedgerModel() {
        for (int k = 0; k < 16; k++) {
            state.accounts.add(new Account());
        }
    }

    private void saw(String what) {
        seen.merge(what, 1, Integer::sum);
    }

    static int mix(int a, int b) {
        int t = a * 668265263 + b;
        return t ^ (t >>> 13);
    }

    static int bloomOf(int x) {
        return (1 << (x & 31)) | (1 << (mix(6, x) & 31));
    }

    private static String bits(int key, int width) {
        String text = Integer.toBinaryString(key);
        return "0".repeat(width - text.length()) + text;
    }

    private static int numberOf(String bits) {
        return Integer.parseInt("1" + bits, 2);
    }

    static int rootOf(TreeMap<String, Integer> map) {
        if (map.isEmpty()) {
            return 0;
        }
        if (map.size() == 1) {
            return mix(mix(1, numberOf(map.firstKey())), map.firstEntry().getValue());
        }
        String shared = map.firstKey();
        for (String key : map.keySet()) {
            while (!key.startsWith(shared)) {
                shared = shared.substring(0, shared.length() - 1);
            }
        }
        if (!shared.isEmpty()) {
            return mix(mix(2, numberOf(shared)), rootOf(behind(map, shared)));
        }
        return mix(mix(3, rootOf(behind(map, "0"))), rootOf(behind(map, "1")));
    }

    private static TreeMap<String, Integer> behind(TreeMap<String, Integer> map, String start) {
        TreeMap<String, Integer> part = new TreeMap<>();
        map.forEach((key, value) -> {
            if (key.startsWith(start)) {
                part.put(key.substring(start.length()), value);
            }
        });
        return part;
    }

    private static boolean isAccount(int k) {
        return 0 <= k && k <= 15;
    }

    boolean fund(int account, int amount) {
        if (!isAccount(account) || amount < 0 || amount > 1000000 || begun > 0) {
            return false;
        }
        state.accounts.get(account).balance += amount;
        return true;
    }

    boolean code(int account, int word) {
        if (!isAccount(account) || state.accounts.get(account).code.size() == 24 || begun > 0) {
            return false;
        }
        state.accounts.get(account).code.add(word);
        return true;
    }

    boolean preset(int account, int slot, int v) {
        if (!isAccount(account) || slot < 0 || slot > 7 || begun > 0) {
            return false;
        }
        state.accounts.get(account).slots[slot] = v;
        return true;
    }

    boolean begin(int newTime, int newMiner) {
        if (open || newTime <= latest || !isAccount(newMiner) || begun == 30) {
            return false;
        }
        open = true;
        begun++;
        time = newTime;
        miner = newMiner;
        used = 0;
        receipts.clear();
        state.logs.clear();
        atBegin = state.copy().accounts;
        return true;
    }

    int send(int from, int to, int value, int input) {
        return transact(from, to, value, input, new int[] {200, 1, 0});
    }

    void terms(int limit, int price, int off) {
        terms = new int[] {limit, price, off};
    }

    int pay(int from, int to, int value, int input) {
        int[] now = terms;
        terms = new int[] {200, 1, 0};
        return transact(from, to, value, input, now);
    }

    private int transact(int from, int to, int value, int input, int[] with) {
        int limit = with[0];
        int price = with[1];
        if (!open) {
            return -1;
        }
        if (!isAccount(from) || !isAccount(to) || value < 0) {
            return -2;
        }
        if (state.accounts.get(from).nonce + with[2] != state.accounts.get(from).nonce) {
            return -3;
        }
        if (limit < 20 || limit > 3000 || price < 0 || price > 100) {
            return -4;
        }
        if (used + limit > 3000) {
            return -5;
        }
        if (state.accounts.get(from).balance < (long) limit * price + value) {
            return -6;
        }
        state.refund = 0;
        state.toGo.clear();
        int logsBefore = state.logs.size();
        state.accounts.get(from).balance -= limit * price;
        state.accounts.get(from).nonce++;
        Frame frame = new Frame();
        frame.self = to;
        frame.code = state.accounts.get(to).code;
        frame.caller = from;
        frame.value = value;
        frame.input = input;
        frame.gas = limit - 20;
        run(frame, value, 1);
        int soFar = limit - frame.gas;
        int gone = Math.min(soFar / 2, state.refund);
        if (gone < state.refund) {
            saw("refund above half");
        }
        int mine = soFar - gone;
        state.accounts.get(from).balance += (limit - mine) * price;
        state.accounts.get(miner).balance += mine * price;
        for (int account : state.toGo) {
            saw("gone");
            state.accounts.set(account, new Account());
        }
        used += mine;
        receipts.add(new int[] {frame.well ? 1 : 0, mine, frame.output, state.logs.size() - logsBefore});
        saw(frame.well ? "transaction well" : "transaction not well");
        return mine;
    }

    /** Gives the value and runs a frame to its end. */
    private void run(Frame frame, int given, int depth) {
        saw("frame at depth " + depth);
        State before = state.copy();
        state.accounts.get(frame.caller).balance -= given;
        state.accounts.get(frame.self).balance += given;
        try {
            while (!oneWord(frame, depth)) {
                continue;
            }
        } catch (Failure failure) {
            saw("failure");
            frame.gas = 0;
            frame.output = 0;
            frame.well = false;
        }
        if (!frame.well) {
            if (state.logs.size() > before.logs.size()) {
                saw("logs undone");
            }
            if (state.refund > before.refund) {
                saw("refund undone");
            }
            if (state.toGo.size() > before.toGo.size()) {
                saw("going undone");
            }
            state = before;
        }
    }

    private boolean ends(Frame f, boolean well, int output) {
        f.well = well;
        f.output = output;
        return true;
    }

    private boolean oneWord(Frame f, int depth) {
        if (f.place == f.code.size()) {
            return ends(f, true, 0);
        }
        int word = f.code.get(f.place);
        int a = word >> 5;
        f.place++;
        saw("operation " + (word & 31));
        int x;
        int y;
        switch (word & 31) {
            case 0 -> { return ends(f, true, 0); }
            case 1 -> { f.take(1); f.push(a); }
            case 2 -> { f.take(1); f.pop(); }
            case 3 -> { f.take(1); f.push(f.peek(a)); }
            case 4 -> {
                f.take(1);
                if (a < 1) {
                    throw new Failure();
                }
                x = f.peek(0);
                y = f.peek(a);
                f.stack.set(f.stack.size() - 1, y);
                f.stack.set(f.stack.size() - 1 - a, x);
            }
            case 5 -> { f.take(1); y = f.pop(); x = f.pop(); f.push(x + y); }
            case 6 -> { f.take(1); y = f.pop(); x = f.pop(); f.push(x - y); }
            case 7 -> { f.take(2); y = f.pop(); x = f.pop(); f.push(x * y); }
            case 8 -> { f.take(2); y = f.pop(); x = f.pop(); f.push(y == 0 ? 0 : (int) ((long) x / y)); }
            case 9 -> { f.take(1); y = f.pop(); x = f.pop(); f.push(x < y ? 1 : 0); }
            case 10 -> { f.take(1); y = f.pop(); x = f.pop(); f.push(x == y ? 1 : 0); }
            case 11 -> { f.take(1); f.push(f.pop() == 0 ? 1 : 0); }
            case 12 -> { f.take(3); f.jump(f.pop()); }
            case 13 -> {
                f.take(4);
                int to = f.pop();
                if (f.pop() != 0) {
                    f.jump(to);
                }
            }
            case 14 -> { f.take(10); x = f.pop(); f.push(slot(f.self, x)); }
            case 15 -> {
                int k = f.pop();
                int v = f.pop();
                int old = slot(f.self, k);
                f.take(old == 0 && v != 0 ? 40 : 10);
                state.accounts.get(f.self).slots[checked(k, 8)] = v;
                if (old != 0 && v == 0) {
                    state.refund += 15;
                }
            }
            case 16 -> { f.take(10); x = f.pop(); f.push(isAccount(x) ? state.accounts.get(x).balance : 0); }
            case 17 -> { f.take(1); f.push(f.self); }
            case 18 -> { f.take(1); f.push(f.caller); }
            case 19 -> { f.take(1); f.push(f.value); }
            case 20 -> { f.take(1); f.push(f.input); }
            case 21 -> { f.take(1); f.push(f.gas); }
            case 22 -> call(f, depth);
            case 23 -> delegate(f, depth);
            case 24 -> create(f);
            case 25 -> { f.take(12); state.logs.add(new int[] {f.self, f.pop()}); }
            case 26 -> { return ends(f, true, f.pop()); }
            case 27 -> { return ends(f, false, f.pop()); }
            case 28 -> {
                f.take(20);
                int heir = checked(f.pop(), 16);
                int all = state.accounts.get(f.self).balance;
                state.accounts.get(f.self).balance -= all;
                state.accounts.get(heir).balance += all;
                state.toGo.add(f.self);
                return ends(f, true, 0);
            }
            default -> throw new Failure();
        }
        return false;
    }

    private static int checked(int k, int size) {
        if (k < 0 || k >= size) {
            throw new Failure();
        }
        return k;
    }

    private void call(Frame f, int depth) {
        int gas = f.pop();
        int to = f.pop();
        int value = f.pop();
        int input = f.pop();
        f.take(value != 0 ? 50 : 30);
        if (value < 0) {
            throw new Failure();
        }
        if (!isAccount(to) || state.accounts.get(f.self).balance < value || depth == 8) {
            saw(depth == 8 ? "ninth frame" : "no frame");
            f.push(0);
            f.push(0);
            return;
        }
        Frame inner = new Frame();
        inner.self = to;
        inner.caller = f.self;
        inner.value = value;
        nest(f, inner, gas, value, to, input, depth);
    }

    private void delegate(Frame f, int depth) {
        int gas = f.pop();
        int to = f.pop();
        int input = f.pop();
        f.take(30);
        if (!isAccount(to) || depth == 8) {
            saw(depth == 8 ? "ninth frame" : "no frame");
            f.push(0);
            f.push(0);
            return;
        }
        Frame inner = new Frame();
        inner.self = f.self;
        inner.caller = f.caller;
        inner.value = f.value;
        nest(f, inner, gas, 0, to, input, depth);
    }

    private void nest(Frame outer, Frame inner, int gas, int given, int to, int input, int depth) {
        int taken = Math.min(gas < 0 ? 0 : gas, outer.gas);
        outer.gas -= taken;
        inner.gas = taken + (given != 0 ? 10 : 0);
        inner.code = state.accounts.get(to).code;
        inner.input = input;
        run(inner, given, depth + 1);
        outer.gas += inner.gas;
        outer.push(inner.output);
        outer.push(inner.well ? 1 : 0);
    }

    private void create(Frame f) {
        int value = f.pop();
        int place = f.pop();
        int number = f.pop();
        f.take(60 + 2 * (number < 1 ? 0 : number > 24 ? 24 : number));
        if (value < 0 || number < 1 || place < 0 || (long) place + number > f.code.size()) {
            throw new Failure();
        }
        int created = 0;
        while (created < 16 && !state.accounts.get(created).isEmpty()) {
            created++;
        }
        if (created == 16 || state.accounts.get(f.self).balance < value) {
            saw("not created");
            f.push(-1);
            return;
        }
        saw("created");
        state.accounts.get(f.self).nonce++;
        state.accounts.get(created).code = new ArrayList<>(f.code.subList(place, place + number));
        state.accounts.get(created).nonce = 1;
        state.accounts.get(f.self).balance -= value;
        state.accounts.get(created).balance += value;
        f.push(created);
    }

    int seal(int shift) {
        if (!open) {
            return -1;
        }
        open = false;
        state.accounts.get(miner).balance += 50;
        if (root() + shift == root()) {
            accepted++;
            latest = time;
            return 1;
        }
        rejected++;
        state.accounts = atBegin;
        return 0;
    }

    int look(int k, int what) {
        if (!isAccount(k)) {
            return -1;
        }
        Account account = state.accounts.get(k);
        return switch (what) {
            case 0 -> account.balance;
            case 1 -> account.nonce;
            case 2 -> account.code.size();
            case 3 -> account.slotsRoot();
            case 4 -> account.number();
            default -> -1;
        };
    }

    int slot(int account, int k) {
        return isAccount(account) && k >= 0 && k < 8 ? state.accounts.get(account).slots[k] : 0;
    }

    int word(int account, int k) {
        return isAccount(account) && k >= 0 && k < state.accounts.get(account).code.size()
            ? state.accounts.get(account).code.get(k) : 0;
    }

    int root() {
        TreeMap<String, Integer> map = new TreeMap<>();
        for (int k = 0; k < 16; k++) {
            if (!state.accounts.get(k).isEmpty()) {
                map.put(bits(k, 4), state.accounts.get(k).number());
            }
        }
        return rootOf(map);
    }

    int block(int what) {
        int bloom = 0;
        for (int[] log : state.logs) {
            bloom |= bloomOf(log[1]);
        }
        return switch (what) {
            case 0 -> accepted;
            case 1 -> rejected;
            case 2 -> latest;
            case 3 -> open ? 1 : 0;
            case 4 -> used;
            case 5 -> bloom;
            case 6 -> receipts.size();
            case 7 -> state.logs.size();
            default -> -1;
        };
    }

    private static int part(List<int[]> rows, int k, int what) {
        if (k < 0 || k >= rows.size() || k >= 16 || what < 0 || what >= rows.get(k).length) {
            return -1;
        }
        return rows.get(k)[what];
    }

    int receipt(int k, int what) {
        return part(receipts, k, what);
    }

    int log(int k, int what) {
        return part(state.logs, k, what);
    }

    long total() {
        return state.accounts.stream().mapToLong(account -> account.balance).sum();
    }
}
