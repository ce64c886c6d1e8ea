import java.util.ArrayList;
import java.util.HashSet;
import java.util.List;
import java.util.Set;

/**
 * The document's grammar as an automaton: it has no recursion. Where no state is left, no text goes on.
 */
final class Grammar {
    private static final class State {
        final List<State> silent = new ArrayList<>();
        String on = null;
        State to = null;
    }

    private record Piece(State from, State to) {
    }

    private final Piece text;

    Grammar() {
        text = grammar();
    }

    /** The index of the first token that does not fit (the end counts as one), or -1. */
    int firstMisfit(List<String> kinds) {
        Set<State> here = close(Set.of(text.from()));
        for (int i = 0; i < kinds.size(); i++) {
            Set<State> next = new HashSet<>();
            for (State state : here) {
                if (kinds.get(i).equals(state.on)) {
                    next.add(state.to);
                }
            }
            here = close(next);
            if (here.isEmpty()) {
                return i;
            }
        }
        return here.contains(text.to()) ? -1 : kinds.size();
    }

    private static Set<State> close(Set<State> states) {
        Set<State> all = new HashSet<>(states);
        List<State> open = new ArrayList<>(states);
        while (!open.isEmpty()) {
            for (State state : open.remove(open.size() - 1).silent) {
                if (all.add(state)) {
                    open.add(state);
                }
            }
        }
        return all;
    }

    private interface Maker {
        Piece make();
    }

    private static Maker t(String kind) {
        return () -> {
            State from = new State();
            State to = new State();
            from.on = kind;
            from.to = to;
            return new Piece(from, to);
        };
    }

    private static Maker seq(Object... parts) {
        return () -> {
            State from = new State();
            State at = from;
            for (Object part : parts) {
                Piece piece = maker(part).make();
                at.silent.add(piece.from());
                at = piece.to();
            }
            return new Piece(from, at);
        };
    }

    private static Maker alt(Object... parts) {
        return () -> {
            State from = new State();
            State to = new State();
            for (Object part : parts) {
                Piece piece = maker(part).make();
                from.silent.add(piece.from());
                piece.to().silent.add(to);
            }
            return new Piece(from, to);
        };
    }

    private static Maker star(Object... parts) {
        return () -> {
            State from = new State();
            Piece piece = seq(parts).make();
            from.silent.add(piece.from());
            piece.to().silent.add(from);
            State to = new State();
            from.silent.add(to);
            return new Piece(from, to);
        };
    }

    private static Maker opt(Object... parts) {
        return alt(seq(parts), seq());
    }

    private static Maker row(Object part, String between) {
        return seq(part, star(between, part));
    }

    private static Maker maker(Object part) {
        return part instanceof Maker m ? m : t((String) part);
    }

    private static Piece grammar() {
        Maker factor = alt("number", seq(alt("name", "result"), opt("^", "number")));
        Maker mono = row(factor, "*");
        Maker poly = seq(opt("-"), mono, star(alt("+", "-"), mono));
        Maker cond = seq(poly, alt(">=", "<="), poly);
        Maker conds = row(cond, ",");
        Maker atom = alt("name", seq(opt("-"), "number"));
        Maker exp = alt(seq("new", atom), seq("len", atom), "read", seq("name", "(", opt(row(atom, ",")), ")"),
                seq(atom, opt(alt(seq(alt("+", "-", "*"), atom), seq(alt("/", "%"), "number")))),
                seq("name", "[", atom, "]"));
        Maker statement = alt(seq("name", "=", exp, ";"), seq("name", "[", atom, "]", "=", atom, ";"));
        Maker rel = alt("<", "<=", ">", ">=", "==", "!=");
        Maker jump = alt(seq("goto", "name", ";"), seq("if", atom, rel, atom, "goto", "name", "else", "name", ";"),
                seq("return", atom, ";"), seq("fail", ";"));
        Maker hyp = seq("#", "number");
        Maker term = alt(seq("number", star("*", hyp)), row(hyp, "*"));
        Maker witness = seq(opt("number", ":"), row(term, "+"));
        Maker body = seq(star(statement), jump, opt("by", "{", row(witness, ";"), "}"));
        Maker first = seq("name", ":", body);
        Maker block = seq("name", opt("keeps", conds), "left", poly, ",", poly, ":", body);
        Maker method = seq("method", "name", "(", opt(row("name", ",")), ")", opt("needs", conds), "steps", poly,
                "cells", poly, opt("gives", conds), "{", opt("var", row("name", ","), ";"), first, star(block), "}");
        return star(method).make();
    }
}
