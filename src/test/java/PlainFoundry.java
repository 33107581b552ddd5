import java.util.ArrayList;
import java.util.List;

/**
 * The document done over in another way, for comparison: every sort stands in a list by itself,
 * and words are set and set again one sort at a time.
 */
final class PlainFoundry {
    static final class Sort {
        final int sign;
        int wear;

        Sort(int sign) {
            this.sign = sign;
        }
    }

    static final class Client {
        int coins;
        int owed;
        int copies;
        int words;
        List<Sort> inCase = new ArrayList<>();
        List<Sort> form = new ArrayList<>();
    }

    private final List<Sort> stock = new ArrayList<>();
    private final List<Client> clients = new ArrayList<>();
    private int day;
    private int metal = 500;
    private int coins;
    private int cast;
    private int broken;
    private int melted;

    int cast(int sign, int many) {
        index(sign >= 0 && sign <= 28);
        argument(many >= 1 && many <= 200);
        int price = many * (sign > 25 ? 3 : 2);
        state(price <= metal);
        state(stock.stream().filter(s -> s.sign == sign).count() + many <= 999);
        metal -= price;
        cast += many;
        for (int i = 0; i < many; i++) {
            stock.add(new Sort(sign));
        }
        return metal;
    }

    int melt(int wear) {
        argument(wear >= 1 && wear <= 9);
        int then = metal;
        int number = 0;
        for (Sort s : stock) {
            if (s.wear >= wear) {
                then += s.sign > 25 ? 2 : 1;
                number++;
            }
        }
        state(then <= 9999);
        stock.removeIf(s -> s.wear >= wear);
        metal = then;
        melted += number;
        return number;
    }

    int buy(int bought) {
        argument(bought >= 1 && bought <= 2000);
        state(metal + bought <= 9999);
        return metal += bought;
    }

    int come(int brought) {
        argument(brought >= 0 && brought <= 5000);
        state(clients.size() < 6);
        Client c = new Client();
        c.coins = brought;
        clients.add(c);
        return clients.size() - 1;
    }

    int rent(int printer, int sign, int many) {
        Client c = client(printer);
        return move(stock, c.inCase, sign, many, false);
    }

    int giveBack(int printer, int sign, int many) {
        Client c = client(printer);
        return move(c.inCase, stock, sign, many, true);
    }

    private int move(List<Sort> from, List<Sort> to, int sign, int many, boolean worn) {
        index(sign >= 0 && sign <= 28);
        argument(many >= 1 && many <= 200);
        state(from.stream().filter(s -> s.sign == sign).count() >= many);
        int wear = 0;
        for (int i = 0; i < many; i++) {
            Sort s = pick(from, sign, worn);
            from.remove(s);
            to.add(s);
            wear += s.wear;
        }
        return wear;
    }

    private static Sort pick(List<Sort> from, int sign, boolean worn) {
        Sort best = null;
        for (Sort s : from) {
            if (s.sign == sign && (best == null || (worn ? s.wear > best.wear : s.wear < best.wear))) {
                best = s;
            }
        }
        return best;
    }

    int pay(int printer) {
        Client c = client(printer);
        int paid = 0;
        while (c.owed > 0 && c.coins > 0) {
            c.owed--;
            c.coins--;
            coins++;
            paid++;
        }
        return paid;
    }

    int set(int printer, int word) {
        Client c = client(printer);
        List<Integer> letters = letters(word);
        List<Sort> rest = new ArrayList<>(c.inCase);
        List<Sort> line = lay(letters, rest);
        state(line != null);
        state(c.form.size() + line.size() <= 60);
        c.inCase = rest;
        c.form.addAll(line);
        c.words++;
        return line.size();
    }

    /** Takes a word's sorts from a store; null if one lacks. */
    private static List<Sort> lay(List<Integer> letters, List<Sort> store) {
        List<Sort> line = new ArrayList<>();
        for (int i = 0; i < letters.size(); i++) {
            Sort taken = null;
            int ligature = i + 1 < letters.size() ? ligature(letters.get(i), letters.get(i + 1)) : -1;
            if (ligature != -1) {
                taken = pick(store, ligature, true);
            }
            if (taken != null) {
                i++;
            } else {
                taken = pick(store, letters.get(i), true);
            }
            if (taken == null) {
                return null;
            }
            store.remove(taken);
            line.add(taken);
        }
        return line;
    }

    private static int ligature(int one, int next) {
        int at = one == 'f' - 'a' ? "ilf".indexOf((char) ('a' + next)) : -1;
        return at == -1 ? -1 : 26 + at;
    }

    int print(int printer, int copies) {
        Client c = client(printer);
        argument(copies >= 1 && copies <= 1000);
        state(!c.form.isEmpty());
        int before = c.form.size();
        for (Sort s : c.form) {
            s.wear += copies / 50;
        }
        c.form.removeIf(s -> s.wear > 9);
        c.copies += copies;
        broken += before - c.form.size();
        return before - c.form.size();
    }

    int distribute(int printer) {
        Client c = client(printer);
        int number = c.form.size();
        c.inCase.addAll(c.form);
        c.form.clear();
        c.words = 0;
        return number;
    }

    int pass(int days) {
        argument(days >= 1 && days <= 100);
        for (int i = 0; i < days; i++) {
            day++;
            for (Client c : clients) {
                c.owed += (c.inCase.size() + c.form.size() + 9) / 10;
            }
        }
        return clients.stream().mapToInt(c -> c.owed).sum();
    }

    int sorts(int printer, int sign, int wear) {
        index(printer >= -1 && printer < clients.size() && sign >= 0 && sign <= 28 && wear >= 0 && wear <= 9);
        List<Sort> asked = printer == -1 ? stock : clients.get(printer).inCase;
        return (int) asked.stream().filter(s -> s.sign == sign && s.wear == wear).count();
    }

    int printer(int printer, int what) {
        Client c = client(printer);
        index(what >= 0 && what <= 6);
        return new int[] {c.coins, c.owed, c.inCase.size(), c.form.size(),
            c.form.stream().mapToInt(s -> s.wear).sum(), c.copies, c.words}[what];
    }

    int count(int what) {
        index(what >= 0 && what <= 7);
        return new int[] {day, metal, coins, stock.size(), clients.size(), cast, broken, melted}[what];
    }

    int takes(int printer, int word) {
        Client c = client(printer);
        List<Sort> line = lay(letters(word), new ArrayList<>(c.inCase));
        return line == null ? -1 : line.size();
    }

    int lacks(int printer, int word) {
        Client c = client(printer);
        List<Integer> letters = letters(word);
        int lacking = -1;
        long most = 0;
        for (int letter = 25; letter >= 0; letter--) {
            int l = letter;
            long lack = letters.stream().filter(x -> x == l).count() - c.inCase.stream().filter(s -> s.sign == l).count();
            if (lack > 0 && lack >= most) {
                most = lack;
                lacking = letter;
            }
        }
        return lacking;
    }

    int bears(int printer) {
        Client c = client(printer);
        if (c.form.isEmpty()) {
            return 0;
        }
        int copies = 0;
        while (c.form.stream().allMatch(s -> s.wear <= 9)) {
            int more = (copies + 1) / 50;
            if (c.form.stream().anyMatch(s -> s.wear + more > 9)) {
                return copies;
            }
            copies++;
        }
        return -1;
    }

    int saves(int word, int other) {
        String both = text(word) + " " + text(other);
        int[] often = new int[3];
        for (int i = 0; i + 1 < both.length(); i++) {
            int at = both.charAt(i) == 'f' ? "ilf".indexOf(both.charAt(i + 1)) : -1;
            if (at != -1) {
                often[at]++;
                i++;
            }
        }
        int most = Math.max(often[0], Math.max(often[1], often[2]));
        return most == 0 ? -1 : often[0] == most ? 26 : often[1] == most ? 27 : 28;
    }

    int times(int printer, int word) {
        Client c = client(printer);
        List<Integer> letters = letters(word);
        List<Sort> rest = new ArrayList<>(c.inCase);
        int times = 0;
        while (lay(letters, rest) != null) {
            times++;
        }
        return times;
    }

    double mean() {
        return stock.isEmpty() ? 0 : (double) stock.stream().mapToInt(s -> s.wear).sum() / stock.size();
    }

    long digest() {
        long d = 751;
        for (int what = 0; what < 8; what++) {
            d = d * 31 + count(what);
        }
        for (int printer = -1; printer < clients.size(); printer++) {
            int[] numbers = new int[290];
            for (Sort s : printer == -1 ? stock : clients.get(printer).inCase) {
                numbers[s.sign * 10 + s.wear]++;
            }
            for (int number : numbers) {
                d = d * 31 + number;
            }
        }
        for (int printer = 0; printer < clients.size(); printer++) {
            for (int what = 0; what < 7; what++) {
                d = d * 31 + printer(printer, what);
            }
        }
        return d;
    }

    private Client client(int printer) {
        index(printer >= 0 && printer < clients.size());
        return clients.get(printer);
    }

    private static List<Integer> letters(int word) {
        String text = text(word);
        List<Integer> letters = new ArrayList<>();
        for (int i = 0; i < text.length(); i++) {
            letters.add(text.charAt(i) - 'a');
        }
        return letters;
    }

    private static String text(int word) {
        argument(word > 0);
        String digits = Integer.toString(word, 27);
        argument(digits.length() <= 6 && digits.indexOf('0') == -1);
        StringBuilder text = new StringBuilder();
        for (char digit : digits.toCharArray()) {
            text.append((char) ('a' + Character.digit(digit, 27) - 1));
        }
        return text.toString();
    }

    private static void index(boolean fine) {
        if (!fine) {
            throw new IndexOutOfBoundsException();
        }
    }

    private static void argument(boolean fine) {
        if (!fine) {
            throw new IllegalArgumentException();
        }
    }

    private static void state(boolean fine) {
        if (!fine) {
            throw new IllegalStateException();
        }
    }
}
