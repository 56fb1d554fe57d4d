import java.math.BigDecimal;
import java.util.ArrayList;
import java.util.Arrays;
import java.util.Collections;
import java.util.Comparator;
import java.util.List;
import java.util.Random;
import java.util.TreeMap;

/** All promises over many texts that are made by chance (always the same ones), against a model in the Java library's own terms. */
public final class RandomTest {
    private static final Comparator<String> BY_CHARACTERS =
            (one, other) -> Arrays.compare(one.codePoints().toArray(), other.codePoints().toArray());

    private static final class Node {
        int kind;
        BigDecimal number;
        String string;
        final List<Node> parts = new ArrayList<>();
        final List<Node> names = new ArrayList<>();
        int begin;
        int id;
        int holder;
        String path;
    }

    private final Random chance;
    private final StringBuilder text = new StringBuilder();
    private final List<Node> nodes = new ArrayList<>();

    private RandomTest(long seed) {
        chance = new Random(seed);
    }

    public static void main(String[] args) {
        for (int seed = 0; seed < 3000; seed++) {
            checkText(seed);
        }
        for (int seed = 0; seed < 3000; seed++) {
            checkMutant(seed);
        }
        Bench.end();
    }

    private static void checkText(int seed) {
        RandomTest test = new RandomTest(seed);
        Node tree = test.tree(1 + seed % 5);
        test.print(tree, -1, "");
        Bench.due("count, seed " + seed, test.bench().twin.count(0), test.nodes.size());
        for (Node node : test.nodes) {
            test.checkNode(test.bench(), node, "seed " + seed + ", VALUE " + node.id + ": ");
        }
        test.checkPairs(test.bench(), seed);
        test.checkTwin(tree, seed);
    }

    private Bench bench() {
        return Bench.of(text.toString());
    }

    private Node tree(int depth) {
        Node node = new Node();
        node.kind = chance.nextInt(depth > 0 ? 10 : 5);
        if (node.kind > 6) {
            node.kind = 5 + node.kind % 2;
        }
        if (node.kind == JsonTwin.NUMBER) {
            node.number = number();
        }
        if (node.kind == JsonTwin.STRING) {
            node.string = string();
        }
        int parts = node.kind >= JsonTwin.ARRAY ? chance.nextInt(5) : 0;
        TreeMap<String, Node> seen = new TreeMap<>(BY_CHARACTERS);
        for (int i = 0; i < parts; i++) {
            Node part = tree(depth - 1);
            Node name = new Node();
            name.kind = JsonTwin.STRING;
            name.string = string();
            if (node.kind == JsonTwin.ARRAY) {
                node.parts.add(part);
            } else if (seen.put(name.string, part) == null) {
                name.parts.add(part);
                node.names.add(name);
            }
        }
        return node;
    }

    private BigDecimal number() {
        BigDecimal number = new BigDecimal(chance.nextInt(chance.nextBoolean() ? 3 : 100000) * (chance.nextBoolean() ? 1 : -1));
        return number.scaleByPowerOfTen(chance.nextInt(9) - 4);
    }

    private String string() {
        int[] pool = {'a', 'b', '/', '~', '"', '\\', 0, 9, 31, 32, 127, 0xE9, 0x7FF, 0x20AC, 0xFFFF, 0x10000, 0x10FFFF, '0', '1'};
        StringBuilder string = new StringBuilder();
        for (int i = chance.nextInt(4); i > 0; i--) {
            string.appendCodePoint(pool[chance.nextInt(chance.nextBoolean() ? 2 : pool.length)]);
        }
        return string.toString();
    }

    private void blanks() {
        while (chance.nextInt(4) == 0) {
            text.append(" \t\n\r".charAt(chance.nextInt(4)));
        }
    }

    private void print(Node node, int holder, String path) {
        blanks();
        node.id = nodes.size();
        node.begin = text.length();
        node.holder = holder;
        node.path = path;
        nodes.add(node);
        switch (node.kind) {
            case JsonTwin.NUMBER -> printNumber(node.number);
            case JsonTwin.STRING -> printString(node.string);
            case JsonTwin.ARRAY -> printArray(node, path);
            case JsonTwin.OBJECT -> printObject(node, path);
            default -> text.append(new String[] {"null", "false", "true"}[node.kind]);
        }
        blanks();
    }

    private void printNumber(BigDecimal number) {
        switch (chance.nextInt(3)) {
            case 0 -> text.append(number.toPlainString());
            case 1 -> text.append(number.setScale(number.scale() + Math.abs(number.scale()) + chance.nextInt(3)).toPlainString());
            default -> text.append(number.signum() == 0 && chance.nextBoolean() ? "-" : "").append(number.unscaledValue())
                    .append(chance.nextBoolean() ? "e" : "E").append(-number.scale());
        }
    }

    private void printString(String string) {
        text.append('"');
        for (int character : string.codePoints().toArray()) {
            String plain = Character.toString(character);
            if (character < 32 || character == '"' || character == '\\' || chance.nextInt(3) == 0) {
                for (char unit : plain.toCharArray()) {
                    text.append(String.format(chance.nextBoolean() ? "\\u%04x" : "\\u%04X", (int) unit));
                }
            } else {
                text.append(Bench.utf8(plain));
            }
        }
        text.append('"');
    }

    private void printArray(Node node, String path) {
        text.append('[');
        for (int i = 0; i < node.parts.size(); i++) {
            text.append(i == 0 ? "" : ",");
            print(node.parts.get(i), node.id, path + "/" + i);
        }
        closeWith(']', node.parts.isEmpty());
    }

    private void printObject(Node node, String path) {
        text.append('{');
        for (int i = 0; i < node.names.size(); i++) {
            Node name = node.names.get(i);
            text.append(i == 0 ? "" : ",");
            print(name, node.id, null);
            text.append(':');
            print(name.parts.get(0), node.id, path + "/" + Bench.utf8(name.string).replace("~", "~0").replace("/", "~1"));
        }
        closeWith('}', node.names.isEmpty());
    }

    private void closeWith(char mark, boolean empty) {
        if (empty) {
            blanks();
        }
        text.append(mark);
    }

    private static String canonical(Node node) {
        switch (node.kind) {
            case JsonTwin.NUMBER:
                BigDecimal bare = node.number.stripTrailingZeros();
                return bare.unscaledValue() + (bare.scale() == 0 || bare.signum() == 0 ? "" : "e" + -bare.scale());
            case JsonTwin.STRING:
                StringBuilder written = new StringBuilder("\"");
                for (char octet : Bench.utf8(node.string).toCharArray()) {
                    String plain = octet == '"' || octet == '\\' ? "\\" + octet : String.valueOf(octet);
                    written.append(octet < 32 ? String.format("\\u%04x", (int) octet) : plain);
                }
                return written.append('"').toString();
            case JsonTwin.ARRAY:
                List<String> parts = new ArrayList<>();
                node.parts.forEach(part -> parts.add(canonical(part)));
                return "[" + String.join(",", parts) + "]";
            case JsonTwin.OBJECT:
                TreeMap<String, String> members = new TreeMap<>(BY_CHARACTERS);
                node.names.forEach(name -> members.put(name.string, canonical(name) + ":" + canonical(name.parts.get(0))));
                return "{" + String.join(",", members.values()) + "}";
            default:
                return new String[] {"null", "false", "true"}[node.kind];
        }
    }

    private void checkNode(Bench bench, Node node, String what) {
        Counted twin = bench.twin;
        List<Node> row = node.kind == JsonTwin.OBJECT ? node.names : node.parts;
        Bench.due(what + "kind", twin.value(0, node.id, 0), node.kind);
        Bench.due(what + "begin", twin.value(0, node.id, 1), node.begin);
        Bench.due(what + "holder", twin.value(0, node.id, 2), node.holder);
        Bench.due(what + "first", twin.value(0, node.id, 6), row.isEmpty() ? -1 : row.get(0).id);
        if (node.kind >= JsonTwin.ARRAY) {
            Bench.due(what + "parts", twin.value(0, node.id, 3), row.size());
            for (int i = 0; i < row.size(); i++) {
                Bench.due(what + "next", twin.value(0, row.get(i).id, 7), i + 1 < row.size() ? row.get(i + 1).id : -1);
            }
        }
        node.names.forEach(name -> Bench.due(what + "next", twin.value(0, name.parts.get(0).id, 7), -1));
        StringBuilder letters = new StringBuilder();
        for (int k = 0; node.kind < JsonTwin.ARRAY && k < twin.value(0, node.id, 3); k++) {
            int letter = twin.letter(0, node.id, k);
            letters.append(node.kind == JsonTwin.NUMBER ? String.valueOf(letter) : Character.toString(letter));
        }
        if (node.kind == JsonTwin.STRING) {
            Bench.due(what + "characters", letters.toString(), node.string);
        }
        if (node.kind == JsonTwin.NUMBER) {
            BigDecimal bare = node.number.stripTrailingZeros();
            boolean zero = bare.signum() == 0;
            Bench.due(what + "DIGITS", letters.toString(), zero ? "" : bare.unscaledValue().abs().toString());
            Bench.due(what + "EXPONENT", twin.value(0, node.id, 4), zero ? 0 : -bare.scale());
            Bench.due(what + "sign", twin.value(0, node.id, 5), bare.signum() < 0 ? 1 : 0);
        }
        Bench.due(what + "WRITTEN", Run.NEW.read(0, text.toString()).write(0, node.id).written(), canonical(node));
        if (node.path != null) {
            Bench.due(what + "pointer " + node.path, bench.pointer(0, node.path), node.id);
        }
    }

    private void checkPairs(Bench bench, int seed) {
        for (int i = 0; i < 40; i++) {
            Node one = nodes.get(chance.nextInt(nodes.size()));
            Node other = nodes.get(chance.nextInt(nodes.size()));
            String what = "seed " + seed + ", VALUES " + one.id + " and " + other.id + ": ";
            Bench.due(what + "same", bench.twin.same(0, one.id, 0, other.id), canonical(one).equals(canonical(other)));
            boolean numbers = one.kind == JsonTwin.NUMBER && other.kind == JsonTwin.NUMBER;
            Bench.due(what + "compare", () -> bench.twin.compare(0, one.id, 0, other.id),
                    numbers ? String.valueOf(one.number.compareTo(other.number)) : Bench.UNSUPPORTED);
        }
    }

    /** The same tree, printed in another way and with its members in another order. */
    private void checkTwin(Node tree, int seed) {
        RandomTest other = new RandomTest(~seed);
        shuffle(tree, other.chance);
        other.print(tree, -1, "");
        Run both = Run.NEW.read(0, text.toString()).read(1, other.text.toString());
        both.takes("VALUES of the twin, seed " + seed, twin -> twin.count(1), other.nodes.size());
        both.takes("twins are THE SAME, seed " + seed, twin -> twin.same(0, 0, 1, 0), true);
        Bench.due("twins are WRITTEN the same, seed " + seed, both.write(1, 0).written(), both.write(0, 0).written());
    }

    private static void shuffle(Node node, Random chance) {
        Collections.shuffle(node.names, chance);
        node.parts.forEach(part -> shuffle(part, chance));
        node.names.forEach(name -> shuffle(name.parts.get(0), chance));
    }

    /** What stands before the octet that is WRONG is a beginning of a TEXT: alone it is one, or WRONG at its end. */
    private static void checkMutant(int seed) {
        RandomTest test = new RandomTest(seed);
        test.print(test.tree(3), -1, "");
        StringBuilder text = test.text;
        String pool = "[]{},:\"\\u/~-+.eE019atn \u00C3\u00A9\u00F0\0";
        for (int i = 1 + test.chance.nextInt(3); i > 0; i--) {
            int where = test.chance.nextInt(text.length());
            text.setCharAt(where, pool.charAt(test.chance.nextInt(pool.length())));
        }
        Bench bench = new Bench();
        int values = bench.read(0, text.toString());
        int wrong = bench.twin.wrong();
        Bench.due("either, mutant " + seed, wrong == -1, values > 0);
        if (wrong >= 0) {
            boolean right = bench.read(1, text.substring(0, wrong)) > 0;
            Bench.due("wrong of the beginning of mutant " + seed, bench.twin.wrong(), right ? -1 : wrong);
        }
    }
}
