import java.util.ArrayList;
import java.util.List;
import java.util.Random;

/** Texts of towns by chance, whole ones and ones that are spoilt. */
final class Texts {
    private final Random r;

    Texts(Random r) {
        this.r = r;
    }

    private String name(int i) {
        return new String[] {"a", "bb", "c", "dock", "eeeeeeee", "firsts", "placet", "zz", "toto", "x"}[i];
    }

    private String number(int v) {
        return v < 10 && r.nextInt(12) == 0 ? "0" + v : String.valueOf(v);
    }

    private String sign() {
        return r.nextBoolean() ? ";" : " ;";
    }

    private String gap() {
        return r.nextInt(6) == 0 ? "\n" : r.nextInt(8) == 0 ? "  " : " ";
    }

    private void features(StringBuilder b, int sights, int unlikely) {
        List<String> all = new ArrayList<>();
        if (r.nextInt(2) == 0) {
            all.add("sees " + number(r.nextInt(sights)));
        }
        if (r.nextInt(3) == 0) {
            all.add("first " + number(r.nextInt(unlikely) == 0 ? 0 : r.nextInt(10)));
        }
        if (r.nextInt(3) == 0) {
            all.add("second " + number(r.nextInt(unlikely) == 0 ? 0 : r.nextInt(10)));
        }
        java.util.Collections.shuffle(all, r);
        for (String f : all) {
            b.append(gap()).append(f);
        }
    }

    private void rules(StringBuilder b) {
        if (r.nextInt(3) == 0) {
            b.append("cross").append(sign());
        }
        if (r.nextInt(3) == 0) {
            b.append("slow").append(gap()).append(number(1 + r.nextInt(4))).append(sign());
        }
        if (r.nextInt(3) == 0) {
            b.append("hears").append(gap()).append(number(r.nextInt(4))).append(sign());
        }
    }

    /** Even shapes come often: what is alike is rare in towns by chance. */
    String town() {
        StringBuilder b = new StringBuilder();
        int n = r.nextInt(10) == 0 ? r.nextInt(9) : 2 + r.nextInt(7);
        boolean plain = r.nextInt(3) == 0;
        int sights = r.nextInt(4) == 0 ? 6 : 1 + r.nextInt(2);
        int unlikely = 1 + r.nextInt(8);
        boolean rulesFirst = r.nextBoolean();
        if (rulesFirst) {
            rules(b);
        }
        for (int i = 0; i < n; i++) {
            b.append("place").append(gap()).append(name(i));
            if (!plain) {
                features(b, sights, unlikely);
            }
            b.append(sign());
        }
        List<int[]> lanes = new ArrayList<>();
        switch (r.nextInt(5)) {
            case 0 -> {
                for (int i = 0; i < n && n > 2; i++) {
                    lanes.add(new int[] {i, (i + 1) % n});
                }
            }
            case 1 -> {
                for (int i = 0; i + 1 < n; i++) {
                    lanes.add(new int[] {i, i + 1});
                }
            }
            case 2 -> {
                for (int i = 0; i + 1 < n; i += 2) {
                    lanes.add(new int[] {i, i + 1});
                }
                for (int i = 0; i + 2 < n && n > 3; i += 2) {
                    lanes.add(new int[] {i, i + 2});
                    lanes.add(new int[] {i + 1, (i + 3) % n});
                }
            }
            case 3 -> {
                for (int i = 0; i < n / 2; i++) {
                    lanes.add(new int[] {i, (i + 1) % Math.max(1, n / 2)});
                    lanes.add(new int[] {n / 2 + i, n / 2 + (i + 1) % Math.max(1, n / 2)});
                }
            }
            default -> {
                for (int i = r.nextInt(14); i > 0 && n > 1; i--) {
                    lanes.add(new int[] {r.nextInt(n), r.nextInt(n)});
                }
            }
        }
        if (r.nextInt(3) == 0) {
            java.util.Collections.shuffle(lanes, r);
        }
        addLanes(b, lanes);
        if (!rulesFirst) {
            rules(b);
        }
        return b.length() > 500 ? "place a;place b;lane a to b;" : b.toString();
    }

    private void addLanes(StringBuilder b, List<int[]> lanes) {
        int[] ends = new int[10];
        List<Integer> had = new ArrayList<>();
        for (int[] l : lanes) {
            int key = Math.min(l[0], l[1]) * 10 + Math.max(l[0], l[1]);
            boolean fits = l[0] != l[1] && !had.contains(key) && had.size() < 12 && ends[l[0]] < 4 && ends[l[1]] < 4;
            if (!fits) {
                continue;
            }
            had.add(key);
            ends[l[0]]++;
            ends[l[1]]++;
            boolean turn = r.nextInt(4) == 0;
            b.append("lane").append(gap()).append(name(l[turn ? 1 : 0])).append(" to ");
            b.append(name(l[turn ? 0 : 1])).append(sign());
        }
    }

    private static final String[] BITS = {"place", "lane", "to", "cross", "slow", "hears", "sees", "first", "second",
        "a", "bb", "c", "x", "zz", "abcdefgh", "abcdefghi", ";", ";", "0", "3", "4", "5", "9", "10", "99", "100",
        "1234", "A", "-", "\t", "\r", "\u00e9", "\u0000", "~", "`", "{", "/", ":", "12a", "a1", " ", "\n"};

    /** A text with a few tokens or signs put in, taken out or put over. */
    String spoilt(String text) {
        StringBuilder b = new StringBuilder(text);
        for (int k = 1 + r.nextInt(3); k > 0; k--) {
            int at = r.nextInt(b.length() + 1);
            String bit = BITS[r.nextInt(BITS.length)];
            switch (r.nextInt(6)) {
                case 0 -> b.setLength(at);
                case 1 -> b.insert(at, bit);
                case 2 -> b.insert(at, " " + bit + " ");
                case 3 -> b.delete(at, Math.min(b.length(), at + 1 + r.nextInt(4)));
                case 4 -> {
                    int from = r.nextInt(b.length() + 1);
                    int to = Math.min(b.length(), from + r.nextInt(30));
                    b.insert(at, b.substring(from, to));
                }
                default -> replaceToken(b, bit);
            }
        }
        return b.length() > 500 ? b.substring(0, 500) : b.toString();
    }

    private void replaceToken(StringBuilder b, String bit) {
        List<int[]> tokens = new ArrayList<>();
        for (int i = 0; i < b.length(); i++) {
            int j = i;
            while (j < b.length() && Character.isLetterOrDigit(b.charAt(j))) {
                j++;
            }
            if (j == i) {
                j++;
            }
            tokens.add(new int[] {i, j});
            i = j - 1;
        }
        if (!tokens.isEmpty()) {
            int[] t = tokens.get(r.nextInt(tokens.size()));
            b.replace(t[0], t[1], bit);
        }
    }
}
