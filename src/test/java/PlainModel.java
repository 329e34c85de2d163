import java.util.ArrayList;
import java.util.HashMap;
import java.util.HashSet;
import java.util.LinkedHashMap;
import java.util.List;
import java.util.Map;

/**
 * The document once more, as plainly as it can be said with the Java library: trees, maps and exceptions, without a
 * thought for room or speed. The program is compared with it.
 */
final class PlainModel {
    static final class Fault extends Exception {
        private static final long serialVersionUID = 1;
        final int place;

        Fault(int place) {
            this.place = place;
        }
    }

    static final class Wrong extends Exception {
        private static final long serialVersionUID = 1;
        final int code;

        Wrong(int code) {
            this.code = code;
        }
    }

    static final class Ended extends Exception {
        private static final long serialVersionUID = 1;
        final int answer;

        Ended(int answer) {
            this.answer = answer;
        }
    }

    record Type(char name, List<Type> parts) {
        boolean isVariable() {
            return name >= 'S';
        }
    }

    record Bound(char variable, Type type) { }

    record Parameter(Type type, char name) { }

    record Field(Type type, char name) { }

    record Method(Type result, char name, List<Bound> bounds, List<Parameter> parameters, Expression body) { }

    record Declared(char name, List<Bound> bounds, Type above, List<Object> members,
        List<Field> fields, Map<Character, Method> methods) { }

    sealed interface Expression permits Name, Select, Call, Make, Cast { }

    record Name(char name) implements Expression { }

    record Select(Expression of, char name) implements Expression { }

    record Call(Expression of, char name, List<Type> types, List<Expression> given) implements Expression { }

    record Make(Type type, List<Expression> given) implements Expression { }

    record Cast(Type type, Expression of) implements Expression { }

    record Value(char name, List<Value> fields) { }

    private String typed = "";
    final Map<Character, Declared> classes = new LinkedHashMap<>();
    private String text = "";
    private int fuel;

    PlainModel() {
        classes.put('A', new Declared('A', List.of(), null, List.of(), new ArrayList<>(), new HashMap<>()));
    }

    // ---- the face

    boolean type(int word, int n) {
        if (n < 1 || n > 4) {
            return false;
        }
        StringBuilder more = new StringBuilder();
        for (int k = n - 1; k >= 0; k--) {
            more.append((char) (word >> 8 * k & 0xff));
        }
        if (more.chars().anyMatch(c -> c < 32 || c > 126) || typed.length() + n > 140) {
            return false;
        }
        typed += more;
        return true;
    }

    int declare() {
        Parser parser = new Parser(typed);
        typed = "";
        char added = 0;
        try {
            Declared declared = parser.declaration();
            checkHead(declared);
            added = declared.name;
            checkMembers(declared);
            return classes.size();
        } catch (Fault fault) {
            return -1 - fault.place;
        } catch (Wrong wrong) {
            if (wrong.code != 1 || added != 0) {
                classes.remove(parser.declaredName);
            }
            return -1000 * wrong.code;
        }
    }

    int run(int given) {
        if (given < 0 || given > 40) {
            return -100000;
        }
        Parser parser = new Parser(typed);
        typed = "";
        text = "";
        try {
            Expression expression = parser.alone();
            typeOf(expression, Map.of(), Map.of());
            fuel = given;
            text = textOf(valueOf(expression, Map.of(), 0), 0);
            text = text.substring(0, Math.min(200, text.length()));
            return 1;
        } catch (Fault fault) {
            return -1 - fault.place;
        } catch (Wrong wrong) {
            return -1000 * wrong.code;
        } catch (Ended ended) {
            return ended.answer;
        }
    }

    int length() {
        return text.length();
    }

    int at(int i) {
        return i >= 0 && i < text.length() ? text.charAt(i) : -1;
    }

    int left() {
        return fuel;
    }

    int fields(int c) {
        Declared declared = c < 0 || c > 7 ? null : classes.get((char) ('A' + c));
        int n = 0;
        if (declared == null) {
            return -1;
        }
        for (Declared d = declared; d != null; d = d.above == null ? null : classes.get(d.above.name)) {
            n += d.fields.size();
        }
        return n;
    }

    int method(int c, int m) {
        Declared declared = c < 0 || c > 7 || m < 0 || m > 25 ? null : classes.get((char) ('A' + c));
        for (Declared d = declared; d != null; d = d.above == null ? null : classes.get(d.above.name)) {
            if (d.methods.containsKey((char) ('a' + m))) {
                return d.name - 'A';
            }
        }
        return -1;
    }

    // ---- reading

    static final class Parser {
        private final String s;
        private int p;
        private int open;
        char declaredName;

        Parser(String s) {
            this.s = s;
        }

        private char see() {
            while (p < s.length() && s.charAt(p) == ' ') {
                p++;
            }
            return p < s.length() ? s.charAt(p) : '\n';
        }

        private char one(String of) throws Fault {
            char c = see();
            if (of.indexOf(c) < 0) {
                throw new Fault(p);
            }
            if ("([{".indexOf(c) >= 0 && ++open > 8) {
                throw new Fault(p);
            }
            if (")]}".indexOf(c) >= 0) {
                open--;
            }
            p++;
            return c;
        }

        private boolean sees(String of) {
            return of.indexOf(see()) >= 0;
        }

        private static final String CLASS = "ABCDEFGH";
        private static final String VARIABLE = "STUVWXYZ";
        private static final String NAME = "abcdefghijklmnopqrstuvwxyz";

        Declared declaration() throws Fault {
            declaredName = one(CLASS);
            List<Bound> bounds = bounds();
            one(":");
            Type above = type(CLASS);
            one("{");
            List<Object> members = new ArrayList<>();
            while (!sees("}")) {
                members.add(member());
            }
            one("}");
            one("\n");
            return new Declared(declaredName, bounds, above, members, new ArrayList<>(), new HashMap<>());
        }

        Expression alone() throws Fault {
            Expression e = expression();
            one("\n");
            return e;
        }

        private Object member() throws Fault {
            Type type = type(CLASS + VARIABLE);
            char name = one(NAME);
            if (sees(";")) {
                one(";");
                return new Field(type, name);
            }
            List<Bound> bounds = bounds();
            one("(");
            List<Parameter> parameters = new ArrayList<>();
            while (!sees(")")) {
                if (!parameters.isEmpty()) {
                    one(parameters.size() < 3 ? "," : ")");
                }
                Type of = type(CLASS + VARIABLE);
                parameters.add(new Parameter(of, one(NAME)));
            }
            one(")");
            one("=");
            Expression body = expression();
            one(";");
            return new Method(type, name, bounds, parameters, body);
        }

        private List<Bound> bounds() throws Fault {
            List<Bound> bounds = new ArrayList<>();
            if (sees("[")) {
                one("[");
                do {
                    if (!bounds.isEmpty()) {
                        one(bounds.size() < 3 ? "," : "]");
                    }
                    char variable = one(VARIABLE);
                    one(":");
                    bounds.add(new Bound(variable, type(CLASS)));
                } while (!sees("]"));
                one("]");
            }
            return bounds;
        }

        private Type type(String first) throws Fault {
            char name = one(first);
            return new Type(name, name >= 'S' || !sees("[") ? List.of() : types());
        }

        private List<Type> types() throws Fault {
            List<Type> types = new ArrayList<>();
            one("[");
            do {
                if (!types.isEmpty()) {
                    one(types.size() < 3 ? "," : "]");
                }
                types.add(type(CLASS + VARIABLE));
            } while (!sees("]"));
            one("]");
            return types;
        }

        private Expression expression() throws Fault {
            Expression e;
            if (sees("(")) {
                one("(");
                if (sees(CLASS)) {
                    Type type = type(CLASS);
                    one(")");
                    return new Cast(type, expression());
                }
                e = expression();
                one(")");
            } else if (sees("*")) {
                one("*");
                Type type = type(CLASS);
                e = new Make(type, expressions());
            } else {
                e = new Name(one(NAME));
            }
            while (sees(".")) {
                one(".");
                char name = one(NAME);
                if (sees("([")) {
                    List<Type> types = sees("[") ? types() : List.of();
                    e = new Call(e, name, types, expressions());
                } else {
                    e = new Select(e, name);
                }
            }
            return e;
        }

        private List<Expression> expressions() throws Fault {
            List<Expression> all = new ArrayList<>();
            one("(");
            while (!sees(")")) {
                if (!all.isEmpty()) {
                    one(",");
                }
                all.add(expression());
            }
            one(")");
            return all;
        }
    }

    // ---- types

    static Type filled(Type type, Map<Character, Type> by) {
        if (type.isVariable()) {
            return by.getOrDefault(type.name, type);
        }
        return new Type(type.name, type.parts.stream().map(x -> filled(x, by)).toList());
    }

    private static Map<Character, Type> filling(List<Bound> bounds, List<Type> types) {
        Map<Character, Type> by = new HashMap<>();
        for (int i = 0; i < bounds.size() && i < types.size(); i++) {
            by.put(bounds.get(i).variable, types.get(i));
        }
        return by;
    }

    Type above(Type type) {
        Declared declared = classes.get(type.name);
        boolean hasNone = declared == null || declared.above == null;
        return hasNone ? null : filled(declared.above, filling(declared.bounds, type.parts));
    }

    boolean liesIn(Type type, Type other, Map<Character, Type> scope) {
        if (type == null) {
            return false;
        }
        return type.equals(other) || liesIn(type.isVariable() ? scope.get(type.name) : above(type), other, scope);
    }

    private boolean good(Type type, Map<Character, Type> scope) {
        if (type.isVariable()) {
            return scope.containsKey(type.name);
        }
        Declared declared = classes.get(type.name);
        if (declared == null || declared.bounds.size() != type.parts.size()) {
            return false;
        }
        boolean good = true;
        for (int i = 0; i < type.parts.size(); i++) {
            Type bound = filled(declared.bounds.get(i).type, filling(declared.bounds, type.parts));
            good &= good(type.parts.get(i), scope) && liesIn(type.parts.get(i), bound, scope);
        }
        return good;
    }

    private static Type boundOf(Type type, Map<Character, Type> scope) {
        return type.isVariable() ? scope.get(type.name) : type;
    }

    List<Field> fieldsOf(Type type) {
        List<Field> all = new ArrayList<>();
        if (above(type) != null) {
            all.addAll(fieldsOf(above(type)));
        }
        Declared declared = classes.get(type.name);
        for (Field field : declared.fields) {
            all.add(new Field(filled(field.type, filling(declared.bounds, type.parts)), field.name));
        }
        return all;
    }

    /** The class type that has the method itself. */
    Type ownerOf(Type type, char name) {
        return type == null || classes.get(type.name).methods.containsKey(name) ? type : ownerOf(above(type), name);
    }

    Map<Character, Type> methodFilling(Type owner, Method method, List<Type> types) {
        Map<Character, Type> by = filling(classes.get(owner.name).bounds, owner.parts);
        by.putAll(filling(method.bounds, types));
        return by;
    }

    // ---- what is wrong

    private static void wrongIf(boolean so, int code) throws Wrong {
        if (so) {
            throw new Wrong(code);
        }
    }

    private static boolean repeats(List<Character> names) {
        return new HashSet<>(names).size() < names.size();
    }

    private static List<Character> variables(List<Bound> bounds) {
        return bounds.stream().map(Bound::variable).toList();
    }

    static Map<Character, Type> scopeOf(Declared declared, Method method) {
        Map<Character, Type> scope = new HashMap<>();
        declared.bounds.forEach(b -> scope.put(b.variable, b.type));
        if (method != null) {
            method.bounds.forEach(b -> scope.put(b.variable, b.type));
        }
        return scope;
    }

    private boolean names(Type type, char name) {
        return type.name == name || type.parts.stream().anyMatch(p -> names(p, name));
    }

    /** Variables in scope, classes there, and as many types as they need; for this, bounds are not looked at. */
    private boolean shaped(Type type, Map<Character, Type> scope) {
        if (type.isVariable()) {
            return scope.containsKey(type.name);
        }
        Declared d = classes.get(type.name);
        boolean fits = d != null && d.bounds.size() == type.parts.size();
        return fits && type.parts.stream().allMatch(p -> shaped(p, scope));
    }

    private void checkHead(Declared declared) throws Wrong {
        wrongIf(classes.containsKey(declared.name) || repeats(variables(declared.bounds)), 1);
        wrongIf(names(declared.above, declared.name), 2);
        classes.put(declared.name, declared);
        Map<Character, Type> scope = scopeOf(declared, null);
        for (Bound bound : declared.bounds) {
            wrongIf(!shaped(bound.type, scope), 2);
        }
        wrongIf(!shaped(declared.above, scope), 2);
        for (Bound bound : declared.bounds) {
            wrongIf(!good(bound.type, scope), 2);
        }
        wrongIf(!good(declared.above, scope), 2);
    }

    private void checkMembers(Declared declared) throws Wrong {
        for (Object member : declared.members) {
            if (member instanceof Field field) {
                wrongIf(!good(field.type, scopeOf(declared, null)), 2);
                List<Field> before = new ArrayList<>(fieldsOf(declared.above));
                before.addAll(declared.fields);
                wrongIf(field.name == 't' || before.stream().anyMatch(f -> f.name == field.name), 3);
                wrongIf(before.size() >= 6, 3);
                declared.fields.add(field);
            } else if (member instanceof Method method) {
                checkMethod(declared, method);
                declared.methods.put(method.name, method);
            }
        }
        for (Object member : declared.members) {
            if (member instanceof Method method) {
                Map<Character, Type> names = new HashMap<>();
                List<Type> own = declared.bounds.stream().map(b -> new Type(b.variable, List.of())).toList();
                names.put('t', new Type(declared.name, own));
                method.parameters.forEach(p -> names.put(p.name, p.type));
                Map<Character, Type> scope = scopeOf(declared, method);
                wrongIf(!liesIn(typeOf(method.body, names, scope), method.result, scope), 11);
            }
        }
    }

    private void checkMethod(Declared declared, Method method) throws Wrong {
        wrongIf(repeats(variables(method.bounds)), 1);
        wrongIf(variables(method.bounds).stream().anyMatch(variables(declared.bounds)::contains), 1);
        Map<Character, Type> scope = scopeOf(declared, method);
        for (Bound bound : method.bounds) {
            wrongIf(!shaped(bound.type, scope), 2);
        }
        for (Bound bound : method.bounds) {
            wrongIf(!good(bound.type, scope), 2);
        }
        wrongIf(!good(method.result, scope), 2);
        for (Parameter parameter : method.parameters) {
            wrongIf(!good(parameter.type, scope), 2);
        }
        List<Character> names = method.parameters.stream().map(Parameter::name).toList();
        wrongIf(repeats(names) || names.contains('t') || declared.methods.containsKey(method.name), 3);
        Type owner = ownerOf(declared.above, method.name);
        if (owner != null) {
            Method other = classes.get(owner.name).methods.get(method.name);
            wrongIf(other.bounds.size() != method.bounds.size(), 4);
            wrongIf(other.parameters.size() != method.parameters.size(), 4);
            List<Type> mine = method.bounds.stream().map(b -> new Type(b.variable, List.of())).toList();
            Map<Character, Type> by = methodFilling(owner, other, mine);
            for (int i = 0; i < mine.size(); i++) {
                wrongIf(!filled(other.bounds.get(i).type, by).equals(method.bounds.get(i).type), 4);
            }
            for (int i = 0; i < method.parameters.size(); i++) {
                wrongIf(!filled(other.parameters.get(i).type, by).equals(method.parameters.get(i).type), 4);
            }
            wrongIf(!liesIn(method.result, filled(other.result, by), scope), 4);
        }
    }

    private Type typeOf(Expression e, Map<Character, Type> names, Map<Character, Type> scope) throws Wrong {
        if (e instanceof Name n) {
            wrongIf(!names.containsKey(n.name), 5);
            return names.get(n.name);
        }
        if (e instanceof Select s) {
            Type of = boundOf(typeOf(s.of, names, scope), scope);
            Field field = fieldsOf(of).stream().filter(f -> f.name == s.name).findFirst().orElse(null);
            wrongIf(field == null, 6);
            return field.type;
        }
        if (e instanceof Call c) {
            return typeOfCall(c, names, scope);
        }
        if (e instanceof Make m) {
            wrongIf(!good(m.type, scope), 8);
            List<Field> fields = fieldsOf(m.type);
            wrongIf(fields.size() != m.given.size(), 7);
            for (int i = 0; i < fields.size(); i++) {
                wrongIf(!liesIn(typeOf(m.given.get(i), names, scope), fields.get(i).type, scope), 9);
            }
            return m.type;
        }
        Cast cast = (Cast) e;
        Type from = boundOf(typeOf(cast.of, names, scope), scope);
        wrongIf(!good(cast.type, scope), 8);
        boolean up = liesIn(from, cast.type, scope);
        wrongIf(!up && !(liesIn(cast.type, from, scope) && keepsAll(cast.type.name, from.name)), 10);
        return cast.type;
    }

    private Type typeOfCall(Call c, Map<Character, Type> names, Map<Character, Type> scope) throws Wrong {
        Type owner = ownerOf(boundOf(typeOf(c.of, names, scope), scope), c.name);
        wrongIf(owner == null, 7);
        Method method = classes.get(owner.name).methods.get(c.name);
        wrongIf(method.bounds.size() != c.types.size() || method.parameters.size() != c.given.size(), 7);
        for (Type type : c.types) {
            wrongIf(!good(type, scope), 8);
        }
        Map<Character, Type> by = methodFilling(owner, method, c.types);
        for (int i = 0; i < c.types.size(); i++) {
            wrongIf(!liesIn(c.types.get(i), filled(method.bounds.get(i).type, by), scope), 8);
        }
        for (int i = 0; i < c.given.size(); i++) {
            Type due = filled(method.parameters.get(i).type, by);
            wrongIf(!liesIn(typeOf(c.given.get(i), names, scope), due, scope), 9);
        }
        return filled(method.result, by);
    }

    private boolean keepsAll(char low, char high) {
        for (char c = low; c != high; c = classes.get(c).above.name) {
            Declared declared = classes.get(c);
            for (Bound bound : declared.bounds) {
                if (!names(declared.above, bound.variable)) {
                    return false;
                }
            }
        }
        return true;
    }

    // ---- running

    private Value valueOf(Expression e, Map<Character, Value> names, int depth) throws Ended {
        if (e instanceof Name n) {
            return names.get(n.name);
        }
        if (e instanceof Select s) {
            Value of = valueOf(s.of, names, depth);
            List<Character> all = fieldNames(of.name);
            return of.fields.get(all.indexOf(s.name));
        }
        if (e instanceof Make m) {
            List<Value> fields = new ArrayList<>();
            for (Expression given : m.given) {
                fields.add(valueOf(given, names, depth));
            }
            return new Value(m.type.name, fields);
        }
        if (e instanceof Cast c) {
            Value of = valueOf(c.of, names, depth);
            for (Declared d = classes.get(of.name); d != null; d = d.above == null ? null : classes.get(d.above.name)) {
                if (d.name == c.type.name) {
                    return of;
                }
            }
            throw new Ended(2);
        }
        Call call = (Call) e;
        Value of = valueOf(call.of, names, depth);
        List<Value> given = new ArrayList<>();
        for (Expression one : call.given) {
            given.add(valueOf(one, names, depth));
        }
        if (fuel == 0) {
            throw new Ended(3);
        }
        fuel--;
        if (depth == 12) {
            throw new Ended(4);
        }
        Declared d = classes.get(of.name);
        while (!d.methods.containsKey(call.name)) {
            d = classes.get(d.above.name);
        }
        Method method = d.methods.get(call.name);
        Map<Character, Value> inside = new HashMap<>();
        inside.put('t', of);
        for (int i = 0; i < given.size(); i++) {
            inside.put(method.parameters.get(i).name, given.get(i));
        }
        return valueOf(method.body, inside, depth + 1);
    }

    private List<Character> fieldNames(char name) {
        Declared declared = classes.get(name);
        List<Character> all = new ArrayList<>();
        if (declared.above != null) {
            all.addAll(fieldNames(declared.above.name));
        }
        declared.fields.forEach(f -> all.add(f.name));
        return all;
    }

    /** Behind 200 characters nothing is to be seen any more, so it is left out, however much it would be. */
    private static String textOf(Value value, int before) {
        if (before > 200) {
            return "";
        }
        StringBuilder all = new StringBuilder().append(value.name);
        for (int i = 0; i < value.fields.size() && before + all.length() <= 200; i++) {
            all.append(i == 0 ? '(' : ',');
            all.append(textOf(value.fields.get(i), before + all.length()));
        }
        return (value.fields.isEmpty() ? all : all.append(')')).toString();
    }
}
