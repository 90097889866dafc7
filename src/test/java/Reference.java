import java.util.ArrayDeque;
import java.util.ArrayList;
import java.util.Deque;
import java.util.List;
import java.util.Map;
import java.util.Set;
import java.util.TreeMap;
import java.util.TreeSet;

/** The document once more, in other means than the program's: maps, sets, and whole states that never change once kept. */
final class Reference {
    private record Place(int row, int column) {
    }

    private record GridWord(boolean down, List<Place> places) {
    }

    private static final class Game {
        final Map<Place, Character> grid = new TreeMap<>((p, q) -> p.row != q.row ? p.row - q.row : p.column - q.column);
        final TreeMap<Integer, Character> guesses = new TreeMap<>();
        final Set<Integer> fixed = new TreeSet<>();
        final List<String> list = new ArrayList<>();
        int factor = 7;
        int shift = 3;
        int coins = 30;
        int bought = 0;
        int checks = 0;

        Game copy() {
            Game g = new Game();
            g.grid.putAll(grid);
            g.guesses.putAll(guesses);
            g.fixed.addAll(fixed);
            g.list.addAll(list);
            g.factor = factor;
            g.shift = shift;
            g.coins = coins;
            g.bought = bought;
            g.checks = checks;
            return g;
        }
    }

    private Game game = new Game();
    private Game snapshot = null;
    private final Deque<Game> history = new ArrayDeque<>();
    private String text = "";

    private void act() {
        history.addLast(game.copy());
        if (history.size() > 4) {
            history.removeFirst();
        }
    }

    private int numberOf(char letter) {
        return Math.floorMod(game.factor * (letter - 'a') + game.shift, 26) + 1;
    }

    private Integer numberAt(Place place) {
        Character letter = game.grid.get(place);
        return letter == null ? null : numberOf(letter);
    }

    private int cellsOf(int number) {
        return (int) game.grid.values().stream().filter(c -> numberOf(c) == number).count();
    }

    private int price(int number) {
        return Math.min(9, 1 + cellsOf(number));
    }

    private int guessedCells() {
        return (int) game.grid.values().stream().filter(c -> game.guesses.containsKey(numberOf(c))).count();
    }

    private List<GridWord> gridWords() {
        List<GridWord> found = new ArrayList<>();
        for (int down = 0; down < 2; down++) {
            for (int line = 0; line < 7; line++) {
                List<Place> run = new ArrayList<>();
                for (int i = 0; i < 8; i++) {
                    Place place = down == 1 ? new Place(i, line) : new Place(line, i);
                    if (game.grid.containsKey(place)) {
                        run.add(place);
                        continue;
                    }
                    if (run.size() >= 2) {
                        found.add(new GridWord(down == 1, run));
                    }
                    run = new ArrayList<>();
                }
            }
        }
        return found;
    }

    private boolean isFit(GridWord word, String listed) {
        if (word.places.size() != listed.length()) {
            return false;
        }
        TreeMap<Integer, Character> all = new TreeMap<>(game.guesses);
        for (int i = 0; i < listed.length(); i++) {
            Character before = all.putIfAbsent(numberAt(word.places.get(i)), listed.charAt(i));
            if (before != null && before != listed.charAt(i)) {
                return false;
            }
        }
        return new TreeSet<>(all.values()).size() == all.size();
    }

    private static int rowFault(String t) {
        for (int i = 0; i <= 7; i++) {
            if (i > 0 && i == t.length()) {
                return -1;
            }
            if (i >= t.length() || i == 7 || "abcdefghijklmnopqrstuvwxyz.".indexOf(t.charAt(i)) < 0) {
                return i;
            }
        }
        throw new IllegalStateException();
    }

    /** The length of the longest beginning of the text that still may become words is the place of its fault. */
    private static int wordsFault(String t) {
        if (t.matches("[a-z]{2,7}(,[a-z]{2,7})*")) {
            return -1;
        }
        int end = 0;
        while (end < t.length() && t.substring(0, end + 1).matches("([a-z]{2,7},)*[a-z]{0,7}")) {
            end++;
        }
        return end;
    }

    int setRow(int row) {
        if (row < 0 || row > 6) {
            return -1;
        }
        if (rowFault(text) >= 0) {
            return -100 - rowFault(text);
        }
        act();
        for (int column = 0; column < 7; column++) {
            Place place = new Place(row, column);
            game.grid.remove(place);
            if (column < text.length() && text.charAt(column) != '.') {
                game.grid.put(place, text.charAt(column));
            }
        }
        game.guesses.clear();
        game.fixed.clear();
        return gridWords().size();
    }

    int setKey(int factor, int shift) {
        if (!List.of(1, 3, 5, 7, 9, 11, 15, 17, 19, 21, 23, 25).contains(factor) || shift < 0 || shift > 25) {
            return -2;
        }
        if (factor == game.factor && shift == game.shift) {
            return -5;
        }
        act();
        game.factor = factor;
        game.shift = shift;
        game.guesses.clear();
        game.fixed.clear();
        return shift + 1;
    }

    int addWords() {
        if (wordsFault(text) >= 0) {
            return -100 - wordsFault(text);
        }
        List<String> longer = new ArrayList<>(game.list);
        for (String word : text.split(",")) {
            if (!longer.contains(word)) {
                longer.add(word);
            }
        }
        int more = longer.size() - game.list.size();
        if (longer.size() > 12) {
            return -3;
        }
        if (more == 0) {
            return -5;
        }
        act();
        game.list.clear();
        game.list.addAll(longer);
        return more;
    }

    int dropWord(int word) {
        if (word < 0 || word >= game.list.size()) {
            return -1;
        }
        act();
        game.list.remove(word);
        return game.list.size();
    }

    int guess(int number, char letter) {
        if (number < 1 || number > 26) {
            return -1;
        }
        if (!String.valueOf(letter).matches("[a-z.]")) {
            return -2;
        }
        Character now = game.guesses.get(number);
        Character then = letter == '.' ? null : Character.valueOf(letter);
        boolean taken = then != null && !then.equals(now) && game.guesses.containsValue(then);
        if (game.fixed.contains(number) || taken) {
            return -4;
        }
        if (then == null ? now == null : then.equals(now)) {
            return -5;
        }
        act();
        if (then == null) {
            game.guesses.remove(number);
        } else {
            game.guesses.put(number, then);
        }
        return guessedCells();
    }

    int guessWord(int word, int listed) {
        int fit = fits(word, listed);
        if (fit != 1) {
            return fit == 0 ? -4 : -1;
        }
        TreeMap<Integer, Character> more = new TreeMap<>(game.guesses);
        List<Place> places = gridWords().get(word).places;
        for (int i = 0; i < places.size(); i++) {
            more.put(numberAt(places.get(i)), game.list.get(listed).charAt(i));
        }
        int given = more.size() - game.guesses.size();
        if (given == 0) {
            return -5;
        }
        act();
        game.guesses.putAll(more);
        return given;
    }

    int buy(int number) {
        if (number < 1 || number > 26) {
            return -1;
        }
        if (game.fixed.contains(number) || game.coins < price(number)) {
            return -4;
        }
        if (cellsOf(number) == 0) {
            return -5;
        }
        act();
        game.coins -= price(number);
        char own = game.grid.values().stream().filter(c -> numberOf(c) == number).findFirst().get();
        game.guesses.values().removeIf(c -> c == own);
        game.guesses.put(number, own);
        game.fixed.add(number);
        game.bought++;
        return own;
    }

    int check(int word) {
        if (word < 0 || word >= gridWords().size()) {
            return -1;
        }
        if (game.coins < 1) {
            return -4;
        }
        act();
        game.coins--;
        game.checks++;
        int wrong = 0;
        for (Place place : gridWords().get(word).places) {
            Character guess = game.guesses.get(numberAt(place));
            if (guess != null && !guess.equals(game.grid.get(place))) {
                wrong++;
            }
        }
        return wrong;
    }

    int give(int coins) {
        if (coins < 1 || coins > 99) {
            return -2;
        }
        if (game.coins == 999) {
            return -5;
        }
        act();
        game.coins = Math.min(999, game.coins + coins);
        return game.coins;
    }

    int type(char character) {
        if (text.length() == 60) {
            return -3;
        }
        text = text + character;
        return text.length();
    }

    int clearText() {
        int had = text.length();
        text = "";
        return had;
    }

    int undo() {
        if (history.isEmpty()) {
            return -5;
        }
        game = history.removeLast();
        return history.size();
    }

    int keep() {
        snapshot = game.copy();
        return game.coins;
    }

    int restore() {
        if (snapshot == null) {
            return -5;
        }
        act();
        game = snapshot.copy();
        return game.coins;
    }

    int cell(int row, int column, int what) {
        if (row < 0 || row > 6 || column < 0 || column > 6) {
            return -1;
        }
        if (what < 0 || what > 3) {
            return -2;
        }
        Place place = new Place(row, column);
        Integer number = numberAt(place);
        if (number == null) {
            return -5;
        }
        if (what == 0) {
            return number;
        }
        if (what == 1) {
            return game.guesses.containsKey(number) ? game.guesses.get(number) : -5;
        }
        List<GridWord> words = gridWords();
        for (int i = 0; i < words.size(); i++) {
            if (words.get(i).down == (what == 3) && words.get(i).places.contains(place)) {
                return i;
            }
        }
        return -5;
    }

    int number(int number, int what) {
        if (number < 1 || number > 26) {
            return -1;
        }
        switch (what) {
            case 0: return cellsOf(number);
            case 1: return game.guesses.containsKey(number) ? game.guesses.get(number) : -5;
            case 2: return price(number);
            case 3: return game.fixed.contains(number) ? 1 : 0;
            case 4: return (int) gridWords().stream().filter(w -> has(w, number)).count();
            default: return -2;
        }
    }

    private boolean has(GridWord word, int number) {
        return word.places.stream().anyMatch(p -> numberAt(p) == number);
    }

    int word(int word, int what) {
        List<GridWord> words = gridWords();
        if (word < 0 || word >= words.size()) {
            return -1;
        }
        GridWord w = words.get(word);
        List<String> fitting = game.list.stream().filter(s -> isFit(w, s)).toList();
        switch (what) {
            case 0: return w.places.get(0).row;
            case 1: return w.places.get(0).column;
            case 2: return w.places.size();
            case 3: return w.down ? 1 : 0;
            case 4: return (int) w.places.stream().filter(p -> game.guesses.containsKey(numberAt(p))).count();
            case 5: return fitting.size();
            case 6: return fitting.isEmpty() ? -5 : game.list.indexOf(fitting.get(0));
            default: return -2;
        }
    }

    int fits(int word, int listed) {
        List<GridWord> words = gridWords();
        if (word < 0 || word >= words.size() || listed < 0 || listed >= game.list.size()) {
            return -1;
        }
        return isFit(words.get(word), game.list.get(listed)) ? 1 : 0;
    }

    int listed(int listed, int what) {
        if (listed < 0 || listed >= game.list.size()) {
            return -1;
        }
        String s = game.list.get(listed);
        List<GridWord> fitting = gridWords().stream().filter(w -> isFit(w, s)).toList();
        switch (what) {
            case 0: return s.length();
            case 1: return fitting.size();
            case 2: return fitting.isEmpty() ? -5 : rest(fitting.get(0));
            default: return -2;
        }
    }

    private int rest(GridWord word) {
        Set<Integer> open = new TreeSet<>();
        word.places.forEach(p -> open.add(numberAt(p)));
        open.removeAll(game.guesses.keySet());
        return open.stream().mapToInt(this::price).sum();
    }

    int could(int number, int what) {
        if (number < 1 || number > 26) {
            return -1;
        }
        if (what != 0 && what != 1) {
            return -2;
        }
        if (game.guesses.containsKey(number) || cellsOf(number) == 0) {
            return -5;
        }
        TreeSet<Character> letters = new TreeSet<>();
        for (char c = 'a'; c <= 'z'; c++) {
            if (!game.guesses.containsValue(c)) {
                letters.add(c);
            }
        }
        for (GridWord word : gridWords()) {
            List<String> fitting = game.list.stream().filter(s -> isFit(word, s)).toList();
            if (!has(word, number) || fitting.isEmpty()) {
                continue;
            }
            Set<Character> there = new TreeSet<>();
            for (String s : fitting) {
                for (int i = 0; i < s.length(); i++) {
                    if (numberAt(word.places.get(i)) == number) {
                        there.add(s.charAt(i));
                    }
                }
            }
            letters.retainAll(there);
        }
        return what == 0 ? letters.size() : letters.isEmpty() ? -5 : letters.first();
    }

    int count(int what) {
        Set<Integer> there = new TreeSet<>();
        game.grid.values().forEach(c -> there.add(numberOf(c)));
        switch (what) {
            case 0: return game.grid.size();
            case 1: return gridWords().size();
            case 2: return game.list.size();
            case 3: return game.coins;
            case 4: return there.size();
            case 5: there.retainAll(game.guesses.keySet()); return there.size();
            case 6: return guessedCells();
            case 7: return !game.grid.isEmpty() && game.grid.values().stream().allMatch(c -> c.equals(game.guesses.get(numberOf(c)))) ? 1 : 0;
            case 8: return game.bought;
            case 9: return game.checks;
            case 10: return game.factor;
            case 11: return game.shift;
            case 12: return history.size();
            case 13: return text.length();
            default: return -2;
        }
    }
}
