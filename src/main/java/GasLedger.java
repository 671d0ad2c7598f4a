/**
 * A ledger of accounts with programs in them: transactions pay for every step, failing calls are
 * taken back, and blocks are accepted or rejected as wholes.
 */
public final class GasLedger {

    private static final int ACCOUNTS = 16;
    private static final int ACCOUNT_BITS = 4;
    private static final int SLOTS = 8;
    private static final int SLOT_BITS = 3;
    private static final int WORDS = 24;
    private static final int STACK = 12;
    private static final int FRAMES = 8;
    private static final int KEPT = 16;

    private static final int MOST_FUNDED = 1000000;
    private static final int MOST_BLOCKS = 30;
    private static final int BLOCK_GAS = 3000;
    private static final int BASE_GAS = 20;
    private static final int MOST_PRICE = 100;
    private static final int REWARD = 50;
    private static final int USUAL_LIMIT = 200;
    private static final int USUAL_PRICE = 1;

    private final Machine machine;
    private final Accounts atBegin;
    private final Receipts receipts;

    private int termsLimit;
    private int termsPrice;
    private int termsOff;

    private boolean underWay;
    private int time;
    private int miner;
    private int usedGas;
    private int begun;
    private int accepted;
    private int rejected;
    private int latestTime;

    public GasLedger() {
        machine = new Machine();
        atBegin = new Accounts();
        receipts = new Receipts();
        termsLimit = USUAL_LIMIT;
        termsPrice = USUAL_PRICE;
    }

    public boolean fund(int account, int amount) {
        if (begun > 0 || !isAccount(account) || amount < 0 || amount > MOST_FUNDED) {
            return false;
        }
        machine.accounts.balances[account] += amount;
        return true;
    }

    public boolean code(int account, int word) {
        if (begun > 0 || !isAccount(account)) {
            return false;
        }
        return machine.accounts.append(account, word);
    }

    public boolean preset(int account, int slot, int v) {
        if (begun > 0 || !isAccount(account) || !isSlot(slot)) {
            return false;
        }
        machine.accounts.slots[account * SLOTS + slot] = v;
        return true;
    }

    public boolean begin(int time, int miner) {
        if (underWay || time <= latestTime || !isAccount(miner) || begun >= MOST_BLOCKS) {
            return false;
        }
        underWay = true;
        this.time = time;
        this.miner = miner;
        begun++;
        usedGas = 0;
        receipts.count = 0;
        machine.logs.cutBackTo(0, 0);
        atBegin.copyFrom(machine.accounts);
        return true;
    }

    public int send(int from, int to, int value, int input) {
        int refusal = refusalOf(from, to, value, USUAL_LIMIT, USUAL_PRICE, 0);
        return refusal < 0 ? refusal : perform(from, to, value, input, USUAL_LIMIT, USUAL_PRICE);
    }

    public void terms(int limit, int price, int off) {
        termsLimit = limit;
        termsPrice = price;
        termsOff = off;
    }

    public int pay(int from, int to, int value, int input) {
        int limit = termsLimit;
        int price = termsPrice;
        int refusal = refusalOf(from, to, value, limit, price, termsOff);
        terms(USUAL_LIMIT, USUAL_PRICE, 0);
        return refusal < 0 ? refusal : perform(from, to, value, input, limit, price);
    }

    public int seal(int shift) {
        if (!underWay) {
            return -1;
        }
        underWay = false;
        machine.accounts.balances[miner] += REWARD;
        // The header tells the root plus shift, and that sum is the root again for no other shift.
        if (shift == 0) {
            accepted++;
            latestTime = time;
            return 1;
        }
        rejected++;
        machine.accounts.copyFrom(atBegin);
        return 0;
    }

    public int look(int account, int what) {
        if (!isAccount(account)) {
            return -1;
        }
        switch (what) {
            case 0: return machine.accounts.balances[account];
            case 1: return machine.accounts.nonces[account];
            case 2: return machine.accounts.sizes[account];
            case 3: return machine.accounts.slotsRoot(account);
            case 4: return machine.accounts.valueOf(account);
            default: return -1;
        }
    }

    public int slot(int account, int k) {
        return machine.accounts.slotOf(account, k);
    }

    public int word(int account, int k) {
        return machine.accounts.wordOf(account, k);
    }

    public int root() {
        return machine.accounts.rootOfAll();
    }

    public int block(int what) {
        switch (what) {
            case 0: return accepted;
            case 1: return rejected;
            case 2: return latestTime;
            case 3: return underWay ? 1 : 0;
            case 4: return usedGas;
            case 5: return machine.logs.bloom;
            case 6: return receipts.count;
            case 7: return machine.logs.count;
            default: return -1;
        }
    }

    public int receipt(int k, int what) {
        return receipts.partOf(k, what);
    }

    public int log(int k, int what) {
        return machine.logs.partOf(k, what);
    }

    public long total() {
        long sum = 0;
        for (int account = 0; account < ACCOUNTS; account++) {
            sum += machine.accounts.balances[account];
        }
        return sum;
    }

    /** The first reason that speaks against a transaction, as pay() answers it; 0 if none does. */
    private int refusalOf(int from, int to, int value, int limit, int price, int off) {
        if (!underWay) {
            return -1;
        }
        if (!isAccount(from) || !isAccount(to) || value < 0) {
            return -2;
        }
        if (off != 0) {
            return -3;
        }
        if (limit < BASE_GAS || limit > BLOCK_GAS || price < 0 || price > MOST_PRICE) {
            return -4;
        }
        if (limit > BLOCK_GAS - usedGas) {
            return -5;
        }
        // In longs, as a great value would wrap an int sum below the balance.
        long needed = (long) limit * price + value;
        return machine.accounts.balances[from] < needed ? -6 : 0;
    }

    /** Does a transaction that nothing speaks against; answers its used gas. */
    private int perform(int from, int to, int value, int input, int limit, int price) {
        Accounts accounts = machine.accounts;
        int logsBefore = machine.logs.count;
        accounts.balances[from] -= limit * price;
        accounts.nonces[from]++;
        Frame ended = machine.run(from, to, value, input, limit - BASE_GAS);
        int soFar = limit - ended.gas;
        int used = soFar - Math.min(soFar / 2, machine.refund);
        accounts.balances[from] += (limit - used) * price;
        accounts.balances[miner] += used * price;
        // Only now, so that what the sender or the miner just got goes with them.
        machine.removeGoers();
        usedGas += used;
        receipts.add(ended.endedWell ? 1 : 0, used, ended.output, machine.logs.count - logsBefore);
        return used;
    }

    private static boolean isAccount(int account) {
        return account >= 0 && account < ACCOUNTS;
    }

    private static boolean isSlot(int k) {
        return k >= 0 && k < SLOTS;
    }

    /** The numbers that commit to what maps hold. */
    private static final class Commitment {

        private Commitment() {
        }

        static int mix(int a, int b) {
            int t = a * 668265263 + b;
            return t ^ (t >>> 13);
        }

        /** The root of the map that gives values[base + key] to each key of so many bits that is a bit of keys. */
        static int rootOfMap(int[] values, int base, int keys, int bits) {
            return rootOfPart(values, base, keys, 0, bits);
        }

        /** The root of the part of that map whose keys are low .. low + 2^bits - 1, of their last bits. */
        private static int rootOfPart(int[] values, int base, int keys, int low, int bits) {
            int first = -1;
            int last = -1;
            for (int key = low; key < low + (1 << bits); key++) {
                if (((keys >>> key) & 1) != 0) {
                    first = first < 0 ? key : first;
                    last = key;
                }
            }
            if (first < 0) {
                return 0;
            }
            // With no bits left there is one key, and nothing below calls itself any deeper.
            if (bits <= 0 || first == last) {
                return mix(mix(1, (1 << bits) + first - low), values[base + first]);
            }
            // All keys lie between the first and the last, so what these two share, all share.
            int rest = 1;
            while (rest < bits && (first >> rest) != (last >> rest)) {
                rest++;
            }
            if (rest < bits) {
                int start = (first >> rest) << rest;
                int shared = (1 << (bits - rest)) + ((start - low) >> rest);
                return mix(mix(2, shared), rootOfPart(values, base, keys, start, rest));
            }
            int zeros = rootOfPart(values, base, keys, low, bits - 1);
            int ones = rootOfPart(values, base, keys, low + (1 << (bits - 1)), bits - 1);
            return mix(mix(3, zeros), ones);
        }
    }

    /** All that the accounts hold. */
    private static final class Accounts {
        final int[] balances;
        final int[] nonces;
        /** How many words the codes have. */
        final int[] sizes;
        final int[] words;
        final int[] slots;
        /** The accounts' values while the root is reckoned. */
        private final int[] values;

        Accounts() {
            balances = new int[ACCOUNTS];
            nonces = new int[ACCOUNTS];
            sizes = new int[ACCOUNTS];
            words = new int[ACCOUNTS * WORDS];
            slots = new int[ACCOUNTS * SLOTS];
            values = new int[ACCOUNTS];
        }

        void copyFrom(Accounts other) {
            System.arraycopy(other.balances, 0, balances, 0, ACCOUNTS);
            System.arraycopy(other.nonces, 0, nonces, 0, ACCOUNTS);
            System.arraycopy(other.sizes, 0, sizes, 0, ACCOUNTS);
            System.arraycopy(other.words, 0, words, 0, ACCOUNTS * WORDS);
            System.arraycopy(other.slots, 0, slots, 0, ACCOUNTS * SLOTS);
        }

        /** Appends a word to the code of an account; false if it is full. */
        boolean append(int account, int word) {
            if (sizes[account] >= WORDS) {
                return false;
            }
            words[account * WORDS + sizes[account]] = word;
            sizes[account]++;
            return true;
        }

        int wordOf(int account, int k) {
            if (!isAccount(account) || k < 0 || k >= sizes[account]) {
                return 0;
            }
            return words[account * WORDS + k];
        }

        int slotOf(int account, int k) {
            return isAccount(account) && isSlot(k) ? slots[account * SLOTS + k] : 0;
        }

        int balanceOf(int account) {
            return isAccount(account) ? balances[account] : 0;
        }

        void give(int from, int to, int amount) {
            balances[from] -= amount;
            balances[to] += amount;
        }

        void clear(int account) {
            balances[account] = 0;
            nonces[account] = 0;
            sizes[account] = 0;
            for (int k = 0; k < SLOTS; k++) {
                slots[account * SLOTS + k] = 0;
            }
        }

        boolean isEmpty(int account) {
            return balances[account] == 0 && nonces[account] == 0 && sizes[account] == 0
                && filledSlots(account) == 0;
        }

        /** The least empty account; -1 if there is none. */
        int leastEmpty() {
            for (int account = 0; account < ACCOUNTS; account++) {
                if (isEmpty(account)) {
                    return account;
                }
            }
            return -1;
        }

        /** The slots of an account that are not 0, as bits. */
        private int filledSlots(int account) {
            int filled = 0;
            for (int k = 0; k < SLOTS; k++) {
                if (slots[account * SLOTS + k] != 0) {
                    filled |= 1 << k;
                }
            }
            return filled;
        }

        int slotsRoot(int account) {
            return Commitment.rootOfMap(slots, account * SLOTS, filledSlots(account), SLOT_BITS);
        }

        private int codeNumber(int account) {
            int number = 5;
            for (int k = 0; k < sizes[account]; k++) {
                number = Commitment.mix(number, words[account * WORDS + k]);
            }
            return number;
        }

        /** The number that commits to all that an account holds. */
        int valueOf(int account) {
            int number = Commitment.mix(4, balances[account]);
            number = Commitment.mix(number, nonces[account]);
            number = Commitment.mix(number, codeNumber(account));
            return Commitment.mix(number, slotsRoot(account));
        }

        int rootOfAll() {
            int keys = 0;
            for (int account = 0; account < ACCOUNTS; account++) {
                if (!isEmpty(account)) {
                    keys |= 1 << account;
                    values[account] = valueOf(account);
                }
            }
            return Commitment.rootOfMap(values, 0, keys, ACCOUNT_BITS);
        }
    }

    /** The logs of a block: all are counted, the first ones kept. */
    private static final class Logs {
        private final int[] accounts;
        private final int[] numbers;
        int count;
        int bloom;

        Logs() {
            accounts = new int[KEPT];
            numbers = new int[KEPT];
        }

        void add(int account, int x) {
            if (count < KEPT) {
                accounts[count] = account;
                numbers[count] = x;
            }
            count++;
            bloom |= (1 << (x & 31)) | (1 << (Commitment.mix(6, x) & 31));
        }

        void cutBackTo(int earlierCount, int earlierBloom) {
            count = earlierCount;
            bloom = earlierBloom;
        }

        int partOf(int k, int what) {
            if (k < 0 || k >= count || k >= KEPT) {
                return -1;
            }
            switch (what) {
                case 0: return accounts[k];
                case 1: return numbers[k];
                default: return -1;
            }
        }
    }

    /** The receipts of a block: all are counted, the first ones kept. */
    private static final class Receipts {
        private final int[] statuses;
        private final int[] usedGas;
        private final int[] outputs;
        private final int[] logCounts;
        int count;

        Receipts() {
            statuses = new int[KEPT];
            usedGas = new int[KEPT];
            outputs = new int[KEPT];
            logCounts = new int[KEPT];
        }

        void add(int status, int used, int output, int logCount) {
            if (count < KEPT) {
                statuses[count] = status;
                usedGas[count] = used;
                outputs[count] = output;
                logCounts[count] = logCount;
            }
            count++;
        }

        int partOf(int k, int what) {
            if (k < 0 || k >= count || k >= KEPT) {
                return -1;
            }
            switch (what) {
                case 0: return statuses[k];
                case 1: return usedGas[k];
                case 2: return outputs[k];
                case 3: return logCounts[k];
                default: return -1;
            }
        }
    }

    /** A run of one code, with what it takes to undo it. */
    private static final class Frame {
        int self;
        /** The account whose code runs. */
        int coder;
        int place;
        int caller;
        int value;
        int input;
        int gas;
        private final int[] stack;
        int height;

        boolean ended;
        boolean endedWell;
        int output;

        final Accounts accountsBefore;
        int refundBefore;
        int goersBefore;
        int logsBefore;
        int bloomBefore;

        Frame() {
            stack = new int[STACK];
            accountsBefore = new Accounts();
        }

        void start(int newSelf, int newCoder, int newCaller, int newValue, int newInput, int newGas) {
            self = newSelf;
            coder = newCoder;
            place = 0;
            caller = newCaller;
            value = newValue;
            input = newInput;
            gas = newGas;
            height = 0;
            ended = false;
        }

        void end(boolean well, int result) {
            ended = true;
            endedWell = well;
            output = result;
        }

        void fail() {
            gas = 0;
            end(false, 0);
        }

        /** The number so far below the top; 0 if there is none. */
        int below(int depth) {
            int at = height - 1 - depth;
            return at >= 0 && at < height ? stack[at] : 0;
        }

        void push(int x) {
            if (height < STACK) {
                stack[height] = x;
                height++;
            }
        }

        int pop() {
            if (height <= 0) {
                return 0;
            }
            height--;
            return stack[height];
        }

        /** The top and the number so far below it change places. */
        void swap(int depth) {
            int at = height - 1 - depth;
            if (at >= 0 && at < height) {
                int top = stack[height - 1];
                stack[height - 1] = stack[at];
                stack[at] = top;
            }
        }
    }

    /** Runs the frames of a transaction on the accounts. */
    private static final class Machine {
        private static final int STOP = 0;
        private static final int PUSH = 1;
        private static final int POP = 2;
        private static final int DUP = 3;
        private static final int SWAP = 4;
        private static final int ADD = 5;
        private static final int SUB = 6;
        private static final int MUL = 7;
        private static final int DIV = 8;
        private static final int LESS = 9;
        private static final int SAME = 10;
        private static final int NONE = 11;
        private static final int JUMP = 12;
        private static final int JUMPIF = 13;
        private static final int LOAD = 14;
        private static final int STORE = 15;
        private static final int BALANCE = 16;
        private static final int SELF = 17;
        private static final int CALLER = 18;
        private static final int VALUE = 19;
        private static final int INPUT = 20;
        private static final int GAS = 21;
        private static final int CALL = 22;
        private static final int DELEGATE = 23;
        private static final int CREATE = 24;
        private static final int LOG = 25;
        private static final int RETURN = 26;
        private static final int REVERT = 27;
        private static final int END = 28;

        /** More numbers than a stack can hold: an operation that needs them fails. */
        private static final int NEVER = STACK + 1;

        /** What each operation costs at least. */
        private static final int[] PRICES = {
            0, 1, 1, 1, 1, 1, 1, 2, 2, 1, 1, 1, 3, 4, 10, 10,
            10, 1, 1, 1, 1, 1, 30, 30, 60, 12, 0, 0, 20, 0, 0, 0};
        /** How many numbers each operation needs on the stack (DUP and SWAP tell that in their words). */
        private static final int[] NEEDS = {
            0, 0, 1, 0, 0, 2, 2, 2, 2, 2, 2, 1, 1, 2, 1, 2,
            1, 0, 0, 0, 0, 0, 4, 3, 3, 1, 1, 1, 1, NEVER, NEVER, NEVER};

        private static final int FIRST_STORE_PRICE = 40;
        private static final int CLEARED_REFUND = 15;
        private static final int GIVING_PRICE = 20;
        private static final int GIVEN_GAS = 10;
        private static final int WORD_PRICE = 2;

        /** Far above the steps that 3000 gas can pay for. */
        private static final int MOST_STEPS = 100000;

        final Accounts accounts;
        final Logs logs;
        private final Frame[] frames;
        private int depth;
        int refund;
        /** The accounts that are to go, as bits. */
        private int goers;

        Machine() {
            accounts = new Accounts();
            logs = new Logs();
            frames = new Frame[FRAMES];
            for (int k = 0; k < FRAMES; k++) {
                frames[k] = new Frame();
            }
        }

        /** Runs the frame of a transaction and all frames inside it; answers it when it has ended. */
        Frame run(int from, int to, int value, int input, int gas) {
            refund = 0;
            goers = 0;
            depth = 0;
            enter(to, to, from, value, input, gas);
            accounts.give(from, to, value);
            for (int steps = 0; steps < MOST_STEPS && depth > 0; steps++) {
                Frame innermost = frames[depth - 1];
                step(innermost);
                if (innermost.ended) {
                    leave(innermost);
                }
            }
            return frames[0];
        }

        void removeGoers() {
            for (int account = 0; account < ACCOUNTS; account++) {
                if (((goers >>> account) & 1) != 0) {
                    accounts.clear(account);
                }
            }
        }

        /** Begins a frame; what is done from here on is undone if it does not end well. */
        private void enter(int self, int coder, int caller, int value, int input, int gas) {
            Frame frame = frames[depth];
            depth++;
            frame.start(self, coder, caller, value, input, gas);
            frame.accountsBefore.copyFrom(accounts);
            frame.refundBefore = refund;
            frame.goersBefore = goers;
            frame.logsBefore = logs.count;
            frame.bloomBefore = logs.bloom;
        }

        private void undo(Frame frame) {
            accounts.copyFrom(frame.accountsBefore);
            refund = frame.refundBefore;
            goers = frame.goersBefore;
            logs.cutBackTo(frame.logsBefore, frame.bloomBefore);
        }

        /** Goes on, behind a frame that has ended, with the one around it. */
        private void leave(Frame frame) {
            if (!frame.endedWell) {
                undo(frame);
            }
            depth--;
            if (depth > 0) {
                Frame outer = frames[depth - 1];
                outer.gas += frame.gas;
                outer.push(frame.output);
                outer.push(frame.endedWell ? 1 : 0);
            }
        }

        /** Does the next word of the innermost frame; behind the last one it reads 0, a STOP. */
        private void step(Frame frame) {
            int word = accounts.wordOf(frame.coder, frame.place);
            int operation = word & 31;
            int a = word >> 5;
            int price = priceOf(frame, operation);
            boolean tooMany = frame.height == STACK && onlyPushes(operation);
            if (frame.gas < price || frame.height < needsOf(operation, a) || tooMany) {
                frame.fail();
                return;
            }
            frame.gas -= price;
            frame.place++;
            switch (operation) {
                case STOP: frame.end(true, 0); break;
                case POP: frame.pop(); break;
                case SWAP: frame.swap(a); break;
                case JUMP: jump(frame, frame.pop()); break;
                case JUMPIF: jumpIf(frame); break;
                case STORE: store(frame); break;
                case CALL: callOther(frame); break;
                case DELEGATE: delegate(frame); break;
                case CREATE: create(frame); break;
                case LOG: logs.add(frame.self, frame.pop()); break;
                case RETURN: frame.end(true, frame.pop()); break;
                case REVERT: frame.end(false, frame.pop()); break;
                case END: endSelf(frame); break;
                default: frame.push(resultOf(frame, operation, a)); break;
            }
        }

        private int priceOf(Frame frame, int operation) {
            int price = PRICES[operation];
            switch (operation) {
                case STORE:
                    boolean first = accounts.slotOf(frame.self, frame.below(0)) == 0 && frame.below(1) != 0;
                    return first ? FIRST_STORE_PRICE : price;
                case CALL:
                    return frame.below(2) != 0 ? price + GIVING_PRICE : price;
                case CREATE:
                    return price + WORD_PRICE * Math.max(0, Math.min(frame.below(2), WORDS));
                default:
                    return price;
            }
        }

        private static int needsOf(int operation, int a) {
            switch (operation) {
                case DUP: return a < 0 ? NEVER : a + 1;
                case SWAP: return a < 1 ? NEVER : a + 1;
                default: return NEEDS[operation];
            }
        }

        /** Whether an operation makes the stack higher: no other one can push a number too many. */
        private static boolean onlyPushes(int operation) {
            return operation == PUSH || operation == DUP || operation >= SELF && operation <= GAS;
        }

        /** What an operation that does nothing else pushes. */
        private int resultOf(Frame frame, int operation, int a) {
            switch (operation) {
                case PUSH: return a;
                case DUP: return frame.below(a);
                case NONE: return frame.pop() == 0 ? 1 : 0;
                case LOAD: return accounts.slotOf(frame.self, frame.pop());
                case BALANCE: return accounts.balanceOf(frame.pop());
                case SELF: return frame.self;
                case CALLER: return frame.caller;
                case VALUE: return frame.value;
                case INPUT: return frame.input;
                case GAS: return frame.gas;
                default:
                    int y = frame.pop();
                    int x = frame.pop();
                    return reckon(operation, x, y);
            }
        }

        private static int reckon(int operation, int x, int y) {
            switch (operation) {
                case ADD: return x + y;
                case SUB: return x - y;
                case MUL: return x * y;
                case DIV: return y == 0 ? 0 : x / y;
                case LESS: return x < y ? 1 : 0;
                case SAME: return x == y ? 1 : 0;
                default: return 0;
            }
        }

        private void jump(Frame frame, int place) {
            if (place < 0 || place >= accounts.sizes[frame.coder]) {
                frame.fail();
            } else {
                frame.place = place;
            }
        }

        private void jumpIf(Frame frame) {
            int place = frame.pop();
            if (frame.pop() != 0) {
                jump(frame, place);
            }
        }

        private void store(Frame frame) {
            int k = frame.pop();
            int v = frame.pop();
            if (!isSlot(k)) {
                frame.fail();
                return;
            }
            int at = frame.self * SLOTS + k;
            if (accounts.slots[at] != 0 && v == 0) {
                refund += CLEARED_REFUND;
            }
            accounts.slots[at] = v;
        }

        private void callOther(Frame frame) {
            int gas = frame.pop();
            int to = frame.pop();
            int value = frame.pop();
            int input = frame.pop();
            if (value < 0) {
                frame.fail();
            } else if (!canEnter(to) || accounts.balances[frame.self] < value) {
                pushNoFrame(frame);
            } else {
                int given = value != 0 ? GIVEN_GAS : 0;
                enter(to, to, frame.self, value, input, takeGas(frame, gas) + given);
                accounts.give(frame.self, to, value);
            }
        }

        private void delegate(Frame frame) {
            int gas = frame.pop();
            int to = frame.pop();
            int input = frame.pop();
            if (canEnter(to)) {
                enter(frame.self, to, frame.caller, frame.value, input, takeGas(frame, gas));
            } else {
                pushNoFrame(frame);
            }
        }

        private boolean canEnter(int coder) {
            return isAccount(coder) && depth < FRAMES;
        }

        private void pushNoFrame(Frame frame) {
            frame.push(0);
            frame.push(0);
        }

        /** Takes the wanted gas away from a frame, as far as it has it. */
        private int takeGas(Frame frame, int wanted) {
            int taken = Math.min(Math.max(wanted, 0), frame.gas);
            frame.gas -= taken;
            return taken;
        }

        private void create(Frame frame) {
            int value = frame.pop();
            int place = frame.pop();
            int number = frame.pop();
            int size = accounts.sizes[frame.coder];
            // Not place + number, which could wrap.
            if (value < 0 || number < 1 || place < 0 || number > size || place > size - number) {
                frame.fail();
                return;
            }
            int created = accounts.leastEmpty();
            if (created < 0 || accounts.balances[frame.self] < value) {
                frame.push(-1);
                return;
            }
            accounts.nonces[frame.self]++;
            accounts.nonces[created] = 1;
            for (int k = 0; k < number; k++) {
                accounts.append(created, accounts.wordOf(frame.coder, place + k));
            }
            accounts.give(frame.self, created, value);
            frame.push(created);
        }

        private void endSelf(Frame frame) {
            int heir = frame.pop();
            if (!isAccount(heir)) {
                frame.fail();
                return;
            }
            accounts.give(frame.self, heir, accounts.balances[frame.self]);
            goers |= 1 << frame.self;
            frame.end(true, 0);
        }
    }
}
