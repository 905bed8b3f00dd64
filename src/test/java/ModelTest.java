import java.util.ArrayDeque;
import java.util.ArrayList;
import java.util.Arrays;
import java.util.Deque;
import java.util.List;
import java.util.Random;

/** Runs of 512 calls with fixed seeds, each answer against a plain model made with the library. */
public final class ModelTest {
    private static final int CALLS = 512;
    private static final int RUNS_OF_A_KIND = 120;

    /** The document's words, an array a row. */
    private static final class Model {
        final List<byte[]> rows = new ArrayList<>();
        final Deque<Integer> free = new ArrayDeque<>();

        byte[] row(int row) {
            return row >= 0 && row < rows.size() ? rows.get(row) : null;
        }

        int places() {
            int all = 0;
            for (byte[] row : rows) {
                all += row == null ? 0 : places(row.length);
            }
            return all;
        }

        static int places(int n) {
            return (n + 7) / 8 * 8;
        }

        int count() {
            return rows.size() - free.size();
        }

        int take(int n) {
            if (n < 0 || n > 16384) {
                return -1;
            }
            if (places() + places(n) > 400000) {
                return -2;
            }
            if (free.isEmpty()) {
                rows.add(new byte[n]);
                return rows.size() - 1;
            }
            int row = free.pop();
            rows.set(row, new byte[n]);
            return row;
        }

        boolean give(int row) {
            if (row(row) == null) {
                return false;
            }
            rows.set(row, null);
            free.push(row);
            return true;
        }

        int resize(int row, int n) {
            byte[] old = row(row);
            if (old == null || n < 0 || n > 16384) {
                return -1;
            }
            if (places(n) > places(old.length) && places() + places(n) > 400000) {
                return -2;
            }
            rows.set(row, Arrays.copyOf(old, n));
            return n;
        }

        boolean put(int row, int i, int b) {
            byte[] bytes = row(row);
            if (bytes == null || i < 0 || i >= bytes.length) {
                return false;
            }
            bytes[i] = (byte) b;
            return true;
        }

        boolean fill(int row, int i, int n, int seed) {
            byte[] bytes = row(row);
            if (bytes == null || i < 0 || n < 0 || (long) i + n > bytes.length) {
                return false;
            }
            for (int k = 0; k < n; k++) {
                bytes[i + k] = (byte) (seed + 7L * k + k / 250);
            }
            return true;
        }

        int copy(int row, int from) {
            byte[] source = row(from);
            if (row(row) == null || source == null) {
                return -1;
            }
            int answer = resize(row, source.length);
            if (answer >= 0) {
                rows.set(row, source.clone());
            }
            return answer;
        }

        int get(int row, int i) {
            byte[] bytes = row(row);
            return bytes == null || i < 0 || i >= bytes.length ? -1 : Byte.toUnsignedInt(bytes[i]);
        }

        int size(int row) {
            return row(row) == null ? -1 : row(row).length;
        }

        int compare(int row, int other) {
            if (row(row) == null || row(other) == null) {
                return -2;
            }
            return Integer.signum(Arrays.compareUnsigned(row(row), row(other)));
        }

        int sum(int row) {
            if (row(row) == null) {
                return 0;
            }
            int sum = 7;
            for (byte b : row(row)) {
                sum = 31 * sum + Byte.toUnsignedInt(b);
            }
            return sum;
        }
    }

    private final Answers answers;
    private final Random random;
    private final int shortest;
    private final int longest;
    private final int giving;
    private final ByteShelf shelf = new ByteShelf();
    private final Model model = new Model();

    private ModelTest(Answers answers, long seed, int shortest, int longest, int giving) {
        this.answers = answers;
        this.random = new Random(seed);
        this.shortest = shortest;
        this.longest = longest;
        this.giving = giving;
    }

    public static void main(String[] args) {
        Answers answers = new Answers();
        for (int seed = 0; seed < RUNS_OF_A_KIND && answers.allRight(); seed++) {
            new ModelTest(answers, seed, 0, 20, 4).run("small " + seed);
            new ModelTest(answers, seed, 0, 3000, 3).run("middle " + seed);
            new ModelTest(answers, seed, 0, 16384, 4).run("large " + seed);
            new ModelTest(answers, seed, 12000, 16384, 3).run("full " + seed);
            new ModelTest(answers, seed, 7000, 9000, 1).run("crowded " + seed);
        }
        answers.end();
    }

    private void run(String name) {
        // The last calls look at every row as it is at the end.
        int calls = 0;
        while (calls + model.rows.size() + 3 < CALLS && answers.allRight()) {
            step(name + ", call " + calls);
            calls++;
        }
        for (int row = 0; row < model.rows.size(); row++) {
            answers.due(name + ": sum(" + row + ") at the end", shelf.sum(row), model.sum(row));
        }
        answers.due(name + ": rows() at the end", shelf.rows(), model.count());
        answers.due(name + ": places() at the end", shelf.places(), model.places());
    }

    private void step(String at) {
        int kind = random.nextInt(24 + giving);
        if (kind < 6) {
            int n = length();
            answers.due(at + ": take(" + n + ")", shelf.take(n), model.take(n));
        } else if (kind < 10) {
            int row = row();
            int n = length();
            answers.due(at + ": resize(" + row + ", " + n + ")",
                    shelf.resize(row, n), model.resize(row, n));
        } else if (kind < 13) {
            fill(at);
        } else if (kind < 15) {
            int row = row();
            int from = row();
            answers.due(at + ": copy(" + row + ", " + from + ")",
                    shelf.copy(row, from), model.copy(row, from));
        } else if (kind < 24) {
            small(at, kind);
        } else {
            int row = row();
            answers.due(at + ": give(" + row + ")", shelf.give(row), model.give(row));
        }
    }

    private void small(String at, int kind) {
        int row = row();
        if (kind < 17) {
            int i = index(row);
            int b = random.nextInt();
            answers.due(at + ": put(" + row + ", " + i + ", " + b + ")",
                    shelf.put(row, i, b), model.put(row, i, b));
        } else if (kind < 19) {
            int i = index(row);
            answers.due(at + ": get(" + row + ", " + i + ")", shelf.get(row, i), model.get(row, i));
        } else if (kind < 20) {
            answers.due(at + ": size(" + row + ")", shelf.size(row), model.size(row));
        } else if (kind < 21) {
            int other = row();
            answers.due(at + ": compare(" + row + ", " + other + ")",
                    shelf.compare(row, other), model.compare(row, other));
        } else if (kind < 22) {
            answers.due(at + ": sum(" + row + ")", shelf.sum(row), model.sum(row));
        } else if (kind < 23) {
            answers.due(at + ": rows()", shelf.rows(), model.count());
        } else {
            answers.due(at + ": places()", shelf.places(), model.places());
        }
    }

    private void fill(String at) {
        int row = row();
        int length = Math.max(0, model.size(row));
        int i = random.nextInt(3) == 0 ? index(row) : 0;
        int n = random.nextInt(3) == 0 ? index(row) : length - Math.max(0, Math.min(i, length));
        int seed = random.nextBoolean() ? random.nextInt(3) : random.nextInt();
        answers.due(at + ": fill(" + row + ", " + i + ", " + n + ", " + seed + ")",
                shelf.fill(row, i, n, seed), model.fill(row, i, n, seed));
    }

    private int length() {
        if (random.nextInt(20) == 0) {
            return odd(16384);
        }
        return shortest + random.nextInt(longest - shortest + 1);
    }

    private int row() {
        if (random.nextInt(20) == 0) {
            return odd(model.rows.size());
        }
        return random.nextInt(model.rows.size() + 1);
    }

    private int index(int row) {
        int length = Math.max(0, model.size(row));
        return random.nextInt(8) == 0 ? odd(length) : random.nextInt(length + 1);
    }

    /** A number at an edge, or beyond it. */
    private int odd(int edge) {
        int[] numbers = {edge - 1, edge, edge + 1, -1, 0, Integer.MIN_VALUE, Integer.MAX_VALUE,
            random.nextInt()};
        return numbers[random.nextInt(numbers.length)];
    }
}
