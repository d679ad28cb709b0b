import java.util.ArrayList;
import java.util.LinkedHashMap;
import java.util.List;
import java.util.Map;
import java.util.NoSuchElementException;

/**
 * The document's words once more, as plainly as Java's library lets one say them and without a look at
 * how GroupStore holds its state: ModelTest sets the answers of the two side by side.
 */
final class PlainModel {
    private record Message(int group, int value) {
    }

    private static final class Entry {
        int number;
        final Map<Integer, Integer> writes = new LinkedHashMap<>();
        final List<Message> messages = new ArrayList<>();
    }

    private static final class Cell {
        int promise;
        int acceptedBallot;
        Entry accepted;
        boolean knows;
        Entry chosen;
    }

    private static final class Open {
        int server;
        int group;
        int base;
        final Entry entry = new Entry();
    }

    private static final class NoMajority extends Exception {
        private static final long serialVersionUID = 1L;
    }

    private final boolean[] up = {true, true, true};
    private final Cell[][][] cells = new Cell[3][4][11];
    private final Map<Integer, Open> open = new LinkedHashMap<>();
    private final List<Message> queue = new ArrayList<>();
    private final List<String> queuedPositions = new ArrayList<>();
    private int first;
    private int second;
    private int rounds;
    private int committed;
    private int conflicts;
    private int numbers;
    private int delivered;
    private int noMajorities;

    PlainModel() {
        for (int s = 0; s < 3; s++) {
            for (int g = 0; g < 4; g++) {
                for (int p = 1; p <= 10; p++) {
                    cells[s][g][p] = new Cell();
                }
            }
        }
    }

    void server(int s, boolean isUp) {
        range(s, 0, 2);
        up[s] = isUp;
    }

    void lose(int firstMask, int secondMask) {
        range(firstMask, 0, 7);
        range(secondMask, 0, 7);
        first = firstMask;
        second = secondMask;
    }

    int begin(int t, int s, int g) {
        range(t, 0, 4);
        range(s, 0, 2);
        range(g, 0, 3);
        try {
            catchingUp(s, g);
        } catch (NoMajority e) {
            throw noMajority();
        }
        Open opened = new Open();
        opened.server = s;
        opened.group = g;
        opened.base = edge(s, g);
        open.put(t, opened);
        return opened.base;
    }

    int get(int t, int key) {
        range(t, 0, 4);
        range(key, 0, 5);
        Open it = opened(t);
        Integer own = it.entry.writes.get(key);
        Integer value = own != null ? own : values(it.server, it.group, it.base).get(key);
        return there(value);
    }

    void put(int t, int key, int value) {
        range(t, 0, 4);
        range(key, 0, 5);
        Map<Integer, Integer> writes = opened(t).entry.writes;
        if (!writes.containsKey(key) && writes.size() == 3) {
            throw new IllegalStateException();
        }
        writes.put(key, value);
    }

    void send(int t, int group, int value) {
        range(t, 0, 4);
        range(group, 0, 3);
        List<Message> messages = opened(t).entry.messages;
        if (messages.size() == 2) {
            throw new IllegalStateException();
        }
        messages.add(new Message(group, value));
    }

    int commit(int t) {
        range(t, 0, 4);
        Open it = opened(t);
        open.remove(t);
        if (it.entry.writes.isEmpty() && it.entry.messages.isEmpty()) {
            return 0;
        }
        if (!up[it.server]) {
            throw noMajority();
        }
        if (it.base == 10) {
            throw new IllegalStateException();
        }
        it.entry.number = ++numbers;
        Entry outcome;
        try {
            outcome = round(it.server, it.group, it.base + 1, it.entry);
        } catch (NoMajority e) {
            throw noMajority();
        }
        if (outcome != it.entry) {
            conflicts++;
            throw new IllegalStateException();
        }
        committed++;
        return it.base + 1;
    }

    void abort(int t) {
        range(t, 0, 4);
        opened(t);
        open.remove(t);
    }

    int catchUp(int s, int g) {
        range(s, 0, 2);
        range(g, 0, 3);
        try {
            catchingUp(s, g);
        } catch (NoMajority e) {
            throw noMajority();
        }
        return edge(s, g);
    }

    int read(int s, int g, int key, int position) {
        range(s, 0, 2);
        range(g, 0, 3);
        range(key, 0, 5);
        range(position, 0, 10);
        int edge = edge(s, g);
        if (position > edge) {
            throw new NoSuchElementException();
        }
        return there(values(s, g, position == 0 ? edge : position).get(key));
    }

    int deliver() {
        if (queue.isEmpty()) {
            throw new NoSuchElementException();
        }
        int s = up[0] ? 0 : up[1] ? 1 : 2;
        if (!up[s]) {
            throw noMajority();
        }
        Message message = queue.get(0);
        int number = ++numbers;
        try {
            for (int i = 1; i <= 4; i++) {
                catchingUp(s, message.group());
                int edge = edge(s, message.group());
                if (edge == 10) {
                    throw new IllegalStateException();
                }
                Entry entry = new Entry();
                entry.number = number;
                int old = values(s, message.group(), edge).getOrDefault(5, 0);
                entry.writes.put(5, old + message.value());
                if (round(s, message.group(), edge + 1, entry) == entry) {
                    queue.remove(0);
                    delivered++;
                    return queue.size();
                }
            }
        } catch (NoMajority e) {
            throw noMajority();
        }
        throw noMajority();
    }

    int log(int s, int g, int position, int what) {
        range(s, 0, 2);
        range(g, 0, 3);
        range(position, 1, 10);
        range(what, 0, 4);
        Cell cell = cells[s][g][position];
        int acceptedNumber = cell.acceptedBallot == 0 ? 0 : cell.accepted.number;
        int chosenNumber = cell.knows ? cell.chosen.number : 0;
        return new int[] {cell.promise, cell.acceptedBallot, acceptedNumber, cell.knows ? 1 : 0, chosenNumber}[what];
    }

    int count(int what) {
        int servers = (up[0] ? 1 : 0) + (up[1] ? 1 : 0) + (up[2] ? 1 : 0);
        int[] counts = {servers, open.size(), queue.size(), rounds, committed, conflicts, numbers, delivered,
            noMajorities};
        if (what >= 0 && what < counts.length) {
            return counts[what];
        }
        return what >= 10 && what <= 21 ? edge((what - 10) / 4, (what - 10) % 4) : -1;
    }

    private void range(int number, int least, int greatest) {
        if (number < least || number > greatest) {
            throw new IllegalArgumentException();
        }
    }

    private int there(Integer value) {
        if (value == null) {
            throw new NoSuchElementException();
        }
        return value;
    }

    private Open opened(int t) {
        if (!open.containsKey(t)) {
            throw new NoSuchElementException();
        }
        return open.get(t);
    }

    private RuntimeException noMajority() {
        noMajorities++;
        return new UnsupportedOperationException();
    }

    private int edge(int s, int g) {
        int edge = 0;
        while (edge < 10 && cells[s][g][edge + 1].knows) {
            edge++;
        }
        return edge;
    }

    private Map<Integer, Integer> values(int s, int g, int position) {
        Map<Integer, Integer> values = new LinkedHashMap<>();
        for (int p = 1; p <= position; p++) {
            values.putAll(cells[s][g][p].chosen.writes);
        }
        return values;
    }

    private void catchingUp(int s, int g) throws NoMajority {
        if (!up[s]) {
            throw new NoMajority();
        }
        int end = 0;
        for (int p = 1; p <= 10; p++) {
            for (int other = 0; other < 3; other++) {
                Cell cell = cells[other][g][p];
                end = cell.knows || cell.acceptedBallot > 0 ? p : end;
            }
        }
        for (int p = edge(s, g) + 1; p <= end; p++) {
            Cell teacher = null;
            for (int other = 0; other < 3; other++) {
                teacher = up[other] && cells[other][g][p].knows ? cells[other][g][p] : teacher;
            }
            if (teacher == null) {
                round(s, g, p, new Entry());
            } else {
                cells[s][g][p].knows = true;
                cells[s][g][p].chosen = teacher.chosen;
            }
        }
    }

    private Entry round(int runner, int g, int position, Entry own) throws NoMajority {
        List<Cell> firstHalf = reached(runner, g, position, first);
        List<Cell> secondHalf = reached(runner, g, position, second);
        first = 0;
        second = 0;
        rounds++;
        int ballot = runner + 1;
        while (ballot <= cells[0][g][position].promise || ballot <= cells[1][g][position].promise
                || ballot <= cells[2][g][position].promise) {
            ballot += 4;
        }
        for (Cell cell : firstHalf) {
            cell.promise = Math.max(cell.promise, ballot);
        }
        if (firstHalf.size() < 2) {
            throw new NoMajority();
        }
        Entry w = proposal(firstHalf, own);
        List<Cell> acceptors = new ArrayList<>();
        for (Cell cell : secondHalf) {
            if (cell.promise <= ballot) {
                cell.promise = ballot;
                cell.acceptedBallot = ballot;
                cell.accepted = w;
                acceptors.add(cell);
            }
        }
        if (acceptors.size() < 2) {
            throw new NoMajority();
        }
        for (Cell cell : acceptors) {
            cell.knows = true;
            cell.chosen = w;
        }
        if (!queuedPositions.contains(g + "/" + position)) {
            queuedPositions.add(g + "/" + position);
            queue.addAll(w.messages);
        }
        return w;
    }

    private List<Cell> reached(int runner, int g, int position, int mask) {
        List<Cell> reached = new ArrayList<>();
        for (int s = 0; s < 3; s++) {
            if (s == runner || (up[s] && (mask & (1 << s)) == 0)) {
                reached.add(cells[s][g][position]);
            }
        }
        return reached;
    }

    private static Entry proposal(List<Cell> reached, Entry own) {
        for (Cell cell : reached) {
            if (cell.knows) {
                return cell.chosen;
            }
        }
        Cell greatest = null;
        for (Cell cell : reached) {
            if (cell.acceptedBallot > 0 && (greatest == null || cell.acceptedBallot > greatest.acceptedBallot)) {
                greatest = cell;
            }
        }
        return greatest == null ? own : greatest.accepted;
    }
}
