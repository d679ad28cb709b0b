import java.util.NoSuchElementException;

/**
 * Groups of values, each with a log of its own that three servers write by agreement.
 * The terms and the numbered promises are those of the document.
 */
public final class GroupStore {
    private static final int SERVERS = 3;
    private static final int GROUPS = 4;
    private static final int POSITIONS = 10;
    private static final int KEYS = 6;
    private static final int TRANSACTIONS = 5;
    private static final int LOSS_MASKS = 8;
    private static final int LOG_ANSWERS = 5;

    private static final int MAX_WRITES = 3;
    private static final int MAX_MESSAGES = 2;
    // A position puts its messages into the queue once, so no run can bring more than these.
    private static final int MAX_QUEUED = GROUPS * POSITIONS * MAX_MESSAGES;

    private static final int MAJORITY = 2;
    private static final int BALLOT_STEP = 4;
    private static final int NO_MAJORITY = -1;
    private static final int NO_SERVER = -1;

    private static final int DELIVERY_KEY = 5;
    private static final int DELIVERY_ROUNDS = 4;

    private static final int FIRST_EDGE_COUNT = 10;

    private final boolean[] up;
    private final GroupLog[] logs;
    private final Transaction[] transactions;
    private final MessageQueue queue;
    private final Entry empty;

    private int firstLoss;
    private int secondLoss;

    private int rounds;
    private int committed;
    private int conflicts;
    private int numbersGiven;
    private int delivered;
    private int noMajorities;

    public GroupStore() {
        up = new boolean[SERVERS];
        for (int s = 0; s < SERVERS; s++) {
            up[s] = true;
        }
        logs = new GroupLog[SERVERS * GROUPS];
        for (int i = 0; i < SERVERS * GROUPS; i++) {
            logs[i] = new GroupLog();
        }
        transactions = new Transaction[TRANSACTIONS];
        queue = new MessageQueue();
        empty = new Entry(0);
    }

    public void server(int s, boolean up) throws IllegalArgumentException {
        requireBelow(s, SERVERS);
        this.up[s] = up;
    }

    public void lose(int first, int second) throws IllegalArgumentException {
        requireBelow(first, LOSS_MASKS);
        requireBelow(second, LOSS_MASKS);
        firstLoss = first;
        secondLoss = second;
    }

    public int begin(int t, int s, int g) throws IllegalArgumentException, UnsupportedOperationException {
        requireBelow(t, TRANSACTIONS);
        requireBelow(s, SERVERS);
        requireBelow(g, GROUPS);
        requireMajority(up[s] && reachesEnd(s, g));
        int base = logOf(s, g).edge;
        transactions[t] = new Transaction(s, g, base);
        return base;
    }

    public int get(int t, int key) throws IllegalArgumentException, NoSuchElementException {
        requireBelow(t, TRANSACTIONS);
        requireBelow(key, KEYS);
        Transaction open = openTransaction(t);
        if (open.entry.writes(key)) {
            return open.entry.values[key];
        }
        return storedValue(logOf(open.server, open.group), key, open.base);
    }

    public void put(int t, int key, int value)
            throws IllegalArgumentException, NoSuchElementException, IllegalStateException {
        requireBelow(t, TRANSACTIONS);
        requireBelow(key, KEYS);
        Entry entry = openTransaction(t).entry;
        requireRoom(entry.writes(key) || entry.writeCount() < MAX_WRITES);
        entry.addWrite(key, value);
    }

    public void send(int t, int group, int value)
            throws IllegalArgumentException, NoSuchElementException, IllegalStateException {
        requireBelow(t, TRANSACTIONS);
        requireBelow(group, GROUPS);
        Entry entry = openTransaction(t).entry;
        requireRoom(entry.messageCount < MAX_MESSAGES);
        entry.addMessage(group, value);
    }

    public int commit(int t) throws IllegalArgumentException, NoSuchElementException, IllegalStateException,
            UnsupportedOperationException {
        requireBelow(t, TRANSACTIONS);
        Transaction over = openTransaction(t);
        transactions[t] = null;
        if (over.entry.isEmpty()) {
            return 0;
        }
        requireMajority(up[over.server]);
        requireRoom(over.base < POSITIONS);
        over.entry.number = nextNumber();
        int position = over.base + 1;
        int outcome = runRound(over.server, over.group, position, over.entry);
        requireMajority(outcome != NO_MAJORITY);
        requireOwnOutcome(outcome == over.entry.number);
        committed++;
        return position;
    }

    public void abort(int t) throws IllegalArgumentException, NoSuchElementException {
        requireBelow(t, TRANSACTIONS);
        requirePresent(transactions[t] != null);
        transactions[t] = null;
    }

    public int catchUp(int s, int g) throws IllegalArgumentException, UnsupportedOperationException {
        requireBelow(s, SERVERS);
        requireBelow(g, GROUPS);
        requireMajority(up[s] && reachesEnd(s, g));
        return logOf(s, g).edge;
    }

    public int read(int s, int g, int key, int position) throws IllegalArgumentException, NoSuchElementException {
        requireBelow(s, SERVERS);
        requireBelow(g, GROUPS);
        requireBelow(key, KEYS);
        requireBelow(position, POSITIONS + 1);
        GroupLog log = logOf(s, g);
        requirePresent(position <= log.edge);
        return storedValue(log, key, position == 0 ? log.edge : position);
    }

    public int deliver() throws NoSuchElementException, IllegalStateException, UnsupportedOperationException {
        requirePresent(queue.size() > 0);
        int s = leastServerUp();
        requireMajority(s != NO_SERVER);
        int number = nextNumber();
        boolean done = false;
        // Behind the end of a caught-up log nothing is accepted, so the later tries only keep the document's limit.
        for (int round = 0; round < DELIVERY_ROUNDS && !done; round++) {
            done = deliversInRound(s, number);
        }
        requireMajority(done);
        queue.dropFirst();
        delivered++;
        return queue.size();
    }

    public int log(int s, int g, int position, int what) throws IllegalArgumentException {
        requireBelow(s, SERVERS);
        requireBelow(g, GROUPS);
        requireBelow(position - 1, POSITIONS);
        requireBelow(what, LOG_ANSWERS);
        GroupLog log = logOf(s, g);
        switch (what) {
            case 0:
                return log.promises[position];
            case 1:
                return log.acceptedBallots[position];
            case 2:
                return numberOf(log.accepted[position]);
            case 3:
                return log.chosen[position] == null ? 0 : 1;
            default:
                return numberOf(log.chosen[position]);
        }
    }

    public int count(int what) {
        switch (what) {
            case 0:
                return serversUp();
            case 1:
                return openTransactions();
            case 2:
                return queue.size();
            case 3:
                return rounds;
            case 4:
                return committed;
            case 5:
                return conflicts;
            case 6:
                return numbersGiven;
            case 7:
                return delivered;
            case 8:
                return noMajorities;
            default:
                return edgeCount(what);
        }
    }

    private int serversUp() {
        int answer = 0;
        for (int s = 0; s < SERVERS; s++) {
            if (up[s]) {
                answer++;
            }
        }
        return answer;
    }

    private int openTransactions() {
        int answer = 0;
        for (int t = 0; t < TRANSACTIONS; t++) {
            if (transactions[t] != null) {
                answer++;
            }
        }
        return answer;
    }

    private int edgeCount(int what) {
        if (what < FIRST_EDGE_COUNT || what >= FIRST_EDGE_COUNT + SERVERS * GROUPS) {
            return -1;
        }
        return logs[what - FIRST_EDGE_COUNT].edge;
    }

    private static void requireBelow(int number, int bound) {
        if (number < 0 || number >= bound) {
            throw new IllegalArgumentException("a number is out of range");
        }
    }

    private static void requirePresent(boolean present) {
        if (!present) {
            throw new NoSuchElementException("not there");
        }
    }

    private static void requireRoom(boolean room) {
        if (!room) {
            throw new IllegalStateException("full");
        }
    }

    private void requireOwnOutcome(boolean own) {
        if (!own) {
            conflicts++;
            throw new IllegalStateException("conflict");
        }
    }

    private void requireMajority(boolean majority) {
        if (!majority) {
            noMajorities++;
            throw new UnsupportedOperationException("no majority");
        }
    }

    private Transaction openTransaction(int t) {
        Transaction open = transactions[t];
        if (open == null) {
            throw new NoSuchElementException("the transaction is not open");
        }
        return open;
    }

    private static int storedValue(GroupLog log, int key, int position) {
        Entry writer = log.lastWriter(key, position);
        if (writer == null) {
            throw new NoSuchElementException("the key has no value");
        }
        return writer.values[key];
    }

    private static int numberOf(Entry entry) {
        return entry == null ? 0 : entry.number;
    }

    private GroupLog logOf(int s, int g) {
        return logs[s * GROUPS + g];
    }

    private int nextNumber() {
        numbersGiven++;
        return numbersGiven;
    }

    private int leastServerUp() {
        for (int s = 0; s < SERVERS; s++) {
            if (up[s]) {
                return s;
            }
        }
        return NO_SERVER;
    }

    /** One try at the first message of the queue; false if another entry took the position. */
    private boolean deliversInRound(int s, int number) {
        int group = queue.firstGroup();
        requireMajority(reachesEnd(s, group));
        GroupLog log = logOf(s, group);
        requireRoom(log.edge < POSITIONS);
        Entry writer = log.lastWriter(DELIVERY_KEY, log.edge);
        int before = writer == null ? 0 : writer.values[DELIVERY_KEY];
        Entry entry = new Entry(number);
        entry.addWrite(DELIVERY_KEY, before + queue.firstValue());
        int outcome = runRound(s, group, log.edge + 1, entry);
        requireMajority(outcome != NO_MAJORITY);
        return outcome == number;
    }

    /** Catching up of a server that is up; false if a round on the way had no majority. */
    private boolean reachesEnd(int s, int g) {
        GroupLog log = logOf(s, g);
        int end = endOf(g);
        for (int position = log.edge + 1; position <= end; position++) {
            Entry known = entryKnownUp(g, position);
            if (known != null) {
                log.learn(position, known);
            } else if (runRound(s, g, position, empty) == NO_MAJORITY) {
                return false;
            }
        }
        return true;
    }

    private int endOf(int g) {
        int end = 0;
        for (int s = 0; s < SERVERS; s++) {
            end = Math.max(end, logOf(s, g).end());
        }
        return end;
    }

    private Entry entryKnownUp(int g, int position) {
        for (int s = 0; s < SERVERS; s++) {
            Entry known = logOf(s, g).chosen[position];
            if (up[s] && known != null) {
                return known;
            }
        }
        return null;
    }

    /** The number of the entry that comes out, or NO_MAJORITY. */
    private int runRound(int s, int g, int position, Entry own) {
        int firstReached = reachedBy(s, firstLoss);
        int secondReached = reachedBy(s, secondLoss);
        firstLoss = 0;
        secondLoss = 0;
        rounds++;
        int ballot = nextBallot(s, g, position);
        promiseBallot(firstReached, g, position, ballot);
        if (Integer.bitCount(firstReached) < MAJORITY) {
            return NO_MAJORITY;
        }
        Entry proposed = entryToPropose(firstReached, g, position, own);
        int acceptors = acceptEntry(secondReached, g, position, ballot, proposed);
        if (Integer.bitCount(acceptors) < MAJORITY) {
            return NO_MAJORITY;
        }
        chooseEntry(acceptors, g, position, proposed);
        return proposed.number;
    }

    private int reachedBy(int runner, int loss) {
        int reached = 0;
        for (int s = 0; s < SERVERS; s++) {
            if (s == runner || up[s] && !isIn(s, loss)) {
                reached |= 1 << s;
            }
        }
        return reached;
    }

    private static boolean isIn(int s, int mask) {
        return (mask >> s & 1) != 0;
    }

    private int nextBallot(int s, int g, int position) {
        int greatest = 0;
        for (int other = 0; other < SERVERS; other++) {
            greatest = Math.max(greatest, logOf(other, g).promises[position]);
        }
        int own = s + 1;
        int steps = greatest < own ? 0 : (greatest - own) / BALLOT_STEP + 1;
        return BALLOT_STEP * steps + own;
    }

    private void promiseBallot(int reached, int g, int position, int ballot) {
        for (int s = 0; s < SERVERS; s++) {
            GroupLog log = logOf(s, g);
            if (isIn(s, reached) && log.promises[position] < ballot) {
                log.promises[position] = ballot;
            }
        }
    }

    private Entry entryToPropose(int reached, int g, int position, Entry own) {
        Entry proposed = own;
        int greatest = 0;
        for (int s = 0; s < SERVERS; s++) {
            GroupLog log = logOf(s, g);
            if (!isIn(s, reached)) {
                continue;
            }
            if (log.chosen[position] != null) {
                return log.chosen[position];
            }
            if (log.accepted[position] != null && log.acceptedBallots[position] > greatest) {
                greatest = log.acceptedBallots[position];
                proposed = log.accepted[position];
            }
        }
        return proposed;
    }

    /** The mask of the servers that accepted. */
    private int acceptEntry(int reached, int g, int position, int ballot, Entry entry) {
        int acceptors = 0;
        for (int s = 0; s < SERVERS; s++) {
            GroupLog log = logOf(s, g);
            if (isIn(s, reached) && log.promises[position] <= ballot) {
                log.promises[position] = ballot;
                log.acceptedBallots[position] = ballot;
                log.accepted[position] = entry;
                acceptors |= 1 << s;
            }
        }
        return acceptors;
    }

    private void chooseEntry(int acceptors, int g, int position, Entry entry) {
        if (!isKnown(g, position)) {
            queue.addMessagesOf(entry);
        }
        for (int s = 0; s < SERVERS; s++) {
            if (isIn(s, acceptors)) {
                logOf(s, g).learn(position, entry);
            }
        }
    }

    private boolean isKnown(int g, int position) {
        for (int s = 0; s < SERVERS; s++) {
            if (logOf(s, g).chosen[position] != null) {
                return true;
            }
        }
        return false;
    }

    /** What a transaction or a delivering wants to write at one position. */
    private static final class Entry {
        // A transaction collects its writes before its entry has a number.
        int number;
        int writtenKeys;
        final int[] values;
        int messageCount;
        final int[] messageGroups;
        final int[] messageValues;

        Entry(int number) {
            this.number = number;
            values = new int[KEYS];
            messageGroups = new int[MAX_MESSAGES];
            messageValues = new int[MAX_MESSAGES];
        }

        boolean writes(int key) {
            return isIn(key, writtenKeys);
        }

        int writeCount() {
            return Integer.bitCount(writtenKeys);
        }

        boolean isEmpty() {
            return writtenKeys == 0 && messageCount == 0;
        }

        void addWrite(int key, int value) {
            writtenKeys |= 1 << key;
            values[key] = value;
        }

        void addMessage(int group, int value) {
            messageGroups[messageCount] = group;
            messageValues[messageCount] = value;
            messageCount++;
        }
    }

    /** What one server holds of one group's log; the rows begin at position 1. */
    private static final class GroupLog {
        final int[] promises;
        final int[] acceptedBallots;
        final Entry[] accepted;
        final Entry[] chosen;
        int edge;

        GroupLog() {
            promises = new int[POSITIONS + 1];
            acceptedBallots = new int[POSITIONS + 1];
            accepted = new Entry[POSITIONS + 1];
            chosen = new Entry[POSITIONS + 1];
        }

        void learn(int position, Entry entry) {
            chosen[position] = entry;
            // A position learnt late may close a gap, so that the edge goes on by several.
            while (edge < POSITIONS && chosen[edge + 1] != null) {
                edge++;
            }
        }

        int end() {
            for (int position = POSITIONS; position >= 1; position--) {
                if (chosen[position] != null || accepted[position] != null) {
                    return position;
                }
            }
            return 0;
        }

        /** The entry that wrote the key last up to the position, or null. */
        Entry lastWriter(int key, int position) {
            for (int at = position; at >= 1; at--) {
                Entry entry = chosen[at];
                if (entry != null && entry.writes(key)) {
                    return entry;
                }
            }
            return null;
        }
    }

    /** An open transaction; its entry holds its writes and messages. */
    private static final class Transaction {
        final int server;
        final int group;
        final int base;
        final Entry entry;

        Transaction(int server, int group, int base) {
            this.server = server;
            this.group = group;
            this.base = base;
            entry = new Entry(0);
        }
    }

    /** The messages of chosen entries that are not yet delivered. */
    private static final class MessageQueue {
        private final int[] groups;
        private final int[] values;
        private int first;
        private int end;

        MessageQueue() {
            groups = new int[MAX_QUEUED];
            values = new int[MAX_QUEUED];
        }

        int size() {
            return end - first;
        }

        int firstGroup() {
            return first < end ? groups[first] : 0;
        }

        int firstValue() {
            return first < end ? values[first] : 0;
        }

        void addMessagesOf(Entry entry) {
            for (int i = 0; i < entry.messageCount && end < MAX_QUEUED; i++) {
                groups[end] = entry.messageGroups[i];
                values[end] = entry.messageValues[i];
                end++;
            }
        }

        void dropFirst() {
            if (first < end) {
                first++;
            }
        }
    }
}
