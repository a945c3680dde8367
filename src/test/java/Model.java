import java.math.BigInteger;
import java.util.ArrayList;
import java.util.List;
import java.util.TreeSet;

/** The document once more, as literally as can be and with other means than the class: big numbers, sets and texts. */
final class Model {
    private static final BigInteger WORDS = BigInteger.ONE.shiftLeft(64);
    private static final BigInteger TIMES = new BigInteger("6364136223846793005");
    private static final BigInteger PLUS = new BigInteger("1442695040888963407");
    private static final BigInteger SEED_TIMES = new BigInteger("2862933555777941757");
    private static final String SORTS = "FTPRSCLV";
    private static final String TOLD_BY_KIND = "FPTRSCLV";

    record Part(char sort, int number, int a, int b, int mark, int need) {
    }

    private final long seed;
    private BigInteger word;
    private List<Part> parts = List.of();
    private final TreeSet<Integer> leftOnes = new TreeSet<>();
    private int bits = 0;
    private boolean stays = true;

    Model(long seed) {
        this.seed = seed;
    }

    private int chance(int n) {
        word = word.multiply(TIMES).add(PLUS).mod(WORDS);
        return word.shiftRight(33).mod(BigInteger.valueOf(n)).intValue();
    }

    private static boolean isSuch(int kind, int size) {
        return kind >= 0 && kind <= 7 && size >= 0 && size <= 60;
    }

    private List<Part> drawn(long from, int kind, int size) {
        word = BigInteger.valueOf(from ^ kind).multiply(SEED_TIMES).add(BigInteger.valueOf(size)).mod(WORDS);
        int planted = kind == 1 ? chance(16) : 16;
        List<Part> all = new ArrayList<>();
        for (int n = 0; n < size + 2; n++) {
            char sort = n == 0 ? 'F' : n == 1 ? 'T' : chance(4) == 3 ? 'F' : TOLD_BY_KIND.charAt(kind);
            int a = chance(1000);
            int b = b(sort, planted);
            int mark = (int) Math.pow(2, chance(8));
            int need = n == 0 ? -1 : n == 1 ? 0 : chance(n + 1);
            all.add(new Part(sort, n, a, b, mark, need == n ? -1 : need));
        }
        return all;
    }

    private int b(char sort, int planted) {
        return switch (sort) {
            case 'F' -> chance(100);
            case 'T' -> chance(8);
            case 'P' -> {
                int set = chance(256);
                yield planted < 8 ? set | (1 << planted) : set;
            }
            case 'R' -> chance(10);
            case 'S' -> {
                int step = chance(12);
                yield chance(5) == 0 ? step + 100 : step;
            }
            case 'C' -> chance(5);
            case 'L' -> chance(7);
            case 'V' -> chance(6);
            default -> throw new IllegalStateException("no sort " + sort);
        };
    }

    private void leaveAll() {
        for (Part part : parts) {
            leftOnes.add(part.number());
        }
    }

    int draw(int kind, int size) {
        if (!isSuch(kind, size)) {
            return -2;
        }
        parts = drawn(seed, kind, size);
        leftOnes.clear();
        leaveAll();
        return parts.size();
    }

    long part(int i, int what) {
        if (i < 0 || i >= parts.size()) {
            return -1;
        }
        Part part = parts.get(i);
        return switch (what) {
            case 0 -> SORTS.indexOf(part.sort());
            case 1 -> part.a();
            case 2 -> part.b();
            case 3 -> part.need();
            case 4 -> part.mark();
            case 5 -> leftOnes.contains(i) ? 1 : 0;
            case 6 -> inAllSets();
            default -> -2;
        };
    }

    private int inAllSets() {
        int common = 0;
        for (int bit = 0; bit < 8; bit++) {
            boolean inAll = true;
            for (int n : leftOnes) {
                Part part = parts.get(n);
                inAll &= part.sort() != 'P' || (part.b() >> bit & 1) == 1;
            }
            common += inAll ? 1 : 0;
        }
        return common;
    }

    String text() {
        StringBuilder text = new StringBuilder();
        for (int n : leftOnes) {
            Part part = parts.get(n);
            text.append(part.sort()).append(n).append('(').append(part.a()).append(',').append(part.b()).append(')');
            if (part.need() >= 0) {
                text.append('<').append(part.need());
            }
            text.append(';');
        }
        return text.toString();
    }

    int letter(int i) {
        String text = text();
        return i < 0 || i >= text.length() ? -1 : text.charAt(i);
    }

    void verdict(int newBits, boolean newStays) {
        bits = Math.floorMod(newBits, 256);
        stays = newStays;
    }

    private boolean holds(TreeSet<Integer> some) {
        boolean all = true;
        for (int bit = 1; bit < 256; bit *= 2) {
            boolean there = false;
            for (int n : some) {
                there |= parts.get(n).mark() == bit;
            }
            all &= there || (bits & bit) == 0;
        }
        return stays ? all : !all;
    }

    private boolean canGo(int i) {
        if (!leftOnes.contains(i)) {
            return false;
        }
        TreeSet<Integer> others = new TreeSet<>(leftOnes);
        others.remove(i);
        for (int n : others) {
            if (parts.get(n).need() == i) {
                return false;
            }
        }
        return holds(others);
    }

    int shorter() {
        if (!holds(leftOnes)) {
            leaveAll();
            return leftOnes.size();
        }
        boolean went = true;
        while (went) {
            went = false;
            for (int i = parts.size() - 1; i >= 0; i--) {
                if (canGo(i)) {
                    leftOnes.remove(i);
                    went = true;
                }
            }
        }
        return leftOnes.size();
    }

    int left(int i) {
        List<Integer> inOrder = new ArrayList<>(leftOnes);
        return i < 0 || i >= inOrder.size() ? -1 : inOrder.get(i);
    }

    boolean minimal() {
        for (int i = 0; i < parts.size(); i++) {
            if (canGo(i)) {
                return false;
            }
        }
        return true;
    }

    boolean same(long other, int kind, int size) {
        return isSuch(kind, size) && drawn(seed, kind, size).equals(drawn(other, kind, size));
    }
}
