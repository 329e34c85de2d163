import java.util.ArrayList;
import java.util.HashMap;
import java.util.List;
import java.util.Map;
import java.util.Random;

/** Makes texts that are often right: it asks the model which types fit, and spoils a part of what it makes. */
final class RandomTexts {
    private static final String FIELDS = "fghij";
    private static final String METHODS = "mnopt";
    private static final String PARAMETERS = "xyzt";
    private static final String VARIABLES = "XYZWS";
    private static final String ANY = "ABCDEFGHSTXYZabfgmnxyzt()[]{}:;,.=*  1@";

    private final Random random;
    private final PlainModel model;
    private final int spoilt;

    RandomTexts(Random random, PlainModel model, int spoilt) {
        this.random = random;
        this.model = model;
        this.spoilt = spoilt;
    }

    private boolean chance(int percent) {
        return random.nextInt(100) < percent;
    }

    private char oneOf(String s) {
        return s.charAt(random.nextInt(s.length()));
    }

    private char declaredClass() {
        List<Character> all = new ArrayList<>(model.classes.keySet());
        return chance(spoilt) ? oneOf("ABCDEFGH") : all.get(random.nextInt(all.size()));
    }

    private char freeClass() {
        for (char c = 'B'; c <= 'H'; c++) {
            if (!model.classes.containsKey(c) && chance(80)) {
                return c;
            }
        }
        return oneOf("ABCDEFGH");
    }

    static String show(PlainModel.Type type) {
        return type.name() + (type.parts().isEmpty() ? "" : showAll(type.parts()));
    }

    private static String showAll(List<PlainModel.Type> types) {
        StringBuilder s = new StringBuilder();
        for (PlainModel.Type type : types) {
            s.append(s.length() == 0 ? "[" : ",").append(show(type));
        }
        return types.isEmpty() ? "" : s.append(']').toString();
    }

    private PlainModel.Type type(Map<Character, PlainModel.Type> scope, int depth, boolean mayBeVariable) {
        if (mayBeVariable && !scope.isEmpty() && chance(45)) {
            List<Character> all = new ArrayList<>(scope.keySet());
            return new PlainModel.Type(all.get(random.nextInt(all.size())), List.of());
        }
        if (mayBeVariable && chance(spoilt)) {
            return new PlainModel.Type(oneOf(VARIABLES), List.of());
        }
        return classType(depth > 2 ? 'A' : declaredClass(), scope, depth);
    }

    private PlainModel.Type classType(char name, Map<Character, PlainModel.Type> scope, int depth) {
        PlainModel.Declared d = model.classes.get(name);
        int n = d == null ? random.nextInt(2) : d.bounds().size();
        n = chance(spoilt) ? random.nextInt(4) : n;
        List<PlainModel.Type> parts = new ArrayList<>();
        for (int i = 0; i < n; i++) {
            boolean takesBound = d != null && i < d.bounds().size() && chance(60);
            PlainModel.Type bound = takesBound ? d.bounds().get(i).type() : null;
            parts.add(bound != null && bound.parts().isEmpty() ? bound : type(scope, depth + 1, true));
        }
        return new PlainModel.Type(name, parts);
    }

    private List<PlainModel.Bound> bounds(Map<Character, PlainModel.Type> scope, char self, int percent) {
        List<PlainModel.Bound> all = new ArrayList<>();
        int n = chance(percent) ? 1 + random.nextInt(chance(20) ? 3 : 2) : 0;
        for (int i = 0; i < n; i++) {
            char variable = oneOf(VARIABLES);
            for (int k = 0; k < 20 && scope.containsKey(variable) && !chance(spoilt); k++) {
                variable = oneOf(VARIABLES);
            }
            scope.put(variable, new PlainModel.Type('A', List.of()));
            PlainModel.Type type = chance(55) ? new PlainModel.Type('A', List.of()) : type(scope, 1, false);
            if (chance(8)) {
                List<PlainModel.Type> own = new ArrayList<>();
                for (int k = 0; k < n; k++) {
                    own.add(new PlainModel.Type(k < all.size() ? all.get(k).variable() : variable, List.of()));
                }
                type = new PlainModel.Type(self, own);
            }
            all.add(new PlainModel.Bound(variable, type));
            scope.put(variable, type);
        }
        return all;
    }

    private static String showBounds(List<PlainModel.Bound> bounds) {
        StringBuilder s = new StringBuilder();
        for (PlainModel.Bound bound : bounds) {
            s.append(s.length() == 0 ? "[" : ",").append(bound.variable()).append(':').append(show(bound.type()));
        }
        return bounds.isEmpty() ? "" : s.append(']').toString();
    }

    String declaration() {
        char name = freeClass();
        Map<Character, PlainModel.Type> scope = new HashMap<>();
        List<PlainModel.Bound> bounds = bounds(scope, name, 55);
        PlainModel.Type above = chance(30) ? new PlainModel.Type('A', List.of()) : type(scope, 0, false);
        StringBuilder s = new StringBuilder().append(name).append(showBounds(bounds));
        s.append(':').append(show(above)).append('{');
        List<PlainModel.Type> own = bounds.stream().map(b -> new PlainModel.Type(b.variable(), List.of())).toList();
        PlainModel.Declared d = new PlainModel.Declared(name, bounds, above, List.of(),
            new ArrayList<>(), new HashMap<>());
        PlainModel.Declared before = model.classes.put(name, d);
        try {
            int n = random.nextInt(4);
            for (int i = 0; i < n; i++) {
                s.append(member(d, new PlainModel.Type(name, own), scope));
            }
        } catch (StackOverflowError | NullPointerException ill) {
            // what is being made is so wrong that the model cannot tell what fits: it stays as it is
        } finally {
            if (before == null) {
                model.classes.remove(name);
            } else {
                model.classes.put(name, before);
            }
        }
        return spoil(s.append('}').toString());
    }

    private String member(PlainModel.Declared d, PlainModel.Type self, Map<Character, PlainModel.Type> classScope) {
        if (chance(40)) {
            char name = chance(spoilt) ? 't' : oneOf(FIELDS);
            PlainModel.Field field = new PlainModel.Field(type(classScope, 0, true), name);
            d.fields().add(field);
            return show(field.type()) + field.name() + ";";
        }
        Map<Character, PlainModel.Type> scope = new HashMap<>(classScope);
        Map<Character, PlainModel.Type> names = new HashMap<>();
        names.put('t', self);
        PlainModel.Method method = chance(35) ? overriding(d, scope) : null;
        if (method == null) {
            List<PlainModel.Bound> bounds = bounds(scope, d.name(), 30);
            List<PlainModel.Parameter> parameters = new ArrayList<>();
            int n = random.nextInt(3);
            for (int i = 0; i < n; i++) {
                char name = PARAMETERS.charAt(chance(spoilt) ? random.nextInt(4) : i);
                parameters.add(new PlainModel.Parameter(type(scope, 0, true), name));
            }
            method = new PlainModel.Method(type(scope, 0, true), oneOf(METHODS), bounds, parameters, null);
        }
        d.methods().put(method.name(), method);
        StringBuilder s = new StringBuilder();
        for (PlainModel.Parameter p : method.parameters()) {
            s.append(s.length() == 0 ? "" : ",").append(show(p.type())).append(p.name());
            names.put(p.name(), p.type());
        }
        String body = wanted(method.result(), names, scope, 0);
        return show(method.result()) + method.name() + showBounds(method.bounds()) + "(" + s + ")=" + body + ";";
    }

    /** A method that is above the class once more, with other variables; the result may be lower. */
    private PlainModel.Method overriding(PlainModel.Declared d, Map<Character, PlainModel.Type> scope) {
        char name = oneOf(METHODS);
        PlainModel.Type owner = model.ownerOf(d.above(), name);
        if (owner == null) {
            return null;
        }
        PlainModel.Method other = model.classes.get(owner.name()).methods().get(name);
        List<PlainModel.Type> mine = new ArrayList<>();
        String free = "UVTSWZYX";
        for (int i = 0; i < other.bounds().size(); i++) {
            mine.add(new PlainModel.Type(free.charAt(i), List.of()));
        }
        Map<Character, PlainModel.Type> by = model.methodFilling(owner, other, mine);
        List<PlainModel.Bound> bounds = new ArrayList<>();
        for (int i = 0; i < mine.size(); i++) {
            PlainModel.Type bound = PlainModel.filled(other.bounds().get(i).type(), by);
            bounds.add(new PlainModel.Bound(mine.get(i).name(), bound));
            scope.put(mine.get(i).name(), bound);
        }
        List<PlainModel.Parameter> parameters = new ArrayList<>();
        for (PlainModel.Parameter p : other.parameters()) {
            boolean changes = chance(spoilt);
            parameters.add(new PlainModel.Parameter(
                changes ? type(scope, 0, true) : PlainModel.filled(p.type(), by), p.name()));
        }
        PlainModel.Type result = chance(40) ? type(scope, 0, true) : PlainModel.filled(other.result(), by);
        return new PlainModel.Method(result, name, bounds, parameters, null);
    }

    String expression() {
        Map<Character, PlainModel.Type> none = Map.of();
        return spoil(wanted(type(none, 0, false), none, none, 0));
    }

    /** An expression whose type should lie in the given one. */
    private String wanted(PlainModel.Type due, Map<Character, PlainModel.Type> names,
            Map<Character, PlainModel.Type> scope, int depth) {
        if (chance(spoilt / 2)) {
            return "" + oneOf(PARAMETERS);
        }
        PlainModel.Type aim = chance(spoilt) ? type(scope, 0, true) : due;
        int way = random.nextInt(depth > 4 ? 40 : 100);
        if (way < 40) {
            List<Character> fit = names.keySet().stream()
                .filter(n -> model.liesIn(names.get(n), aim, scope)).toList();
            if (!fit.isEmpty()) {
                return "" + fit.get(random.nextInt(fit.size()));
            }
        }
        if (way < 50 && depth < 5) {
            return "(" + show(chance(70) && !aim.isVariable() ? aim : type(scope, 0, false)) + ")"
                + wanted(chance(50) ? aim : type(scope, 0, true), names, scope, depth + 1);
        }
        if (way < 75 && depth < 5) {
            String found = byCall(aim, names, scope, depth);
            if (found != null) {
                return found;
            }
        }
        if (way < 80 && depth < 5) {
            String found = bySelection(aim, names, scope, depth);
            if (found != null) {
                return found;
            }
        }
        if (way < 84 && depth < 5) {
            return "(" + wanted(aim, names, scope, depth + 1) + ")";
        }
        return byMaking(aim, names, scope, depth);
    }

    private String byCall(PlainModel.Type aim, Map<Character, PlainModel.Type> names,
            Map<Character, PlainModel.Type> scope, int depth) {
        for (int i = 0; i < 8; i++) {
            PlainModel.Type of = receiver(names, scope);
            PlainModel.Type bound = of.isVariable() ? scope.get(of.name()) : of;
            char name = oneOf(METHODS);
            PlainModel.Type owner = bound == null || !model.classes.containsKey(bound.name()) ? null
                : model.ownerOf(bound, name);
            if (owner != null) {
                PlainModel.Method method = model.classes.get(owner.name()).methods().get(name);
                List<PlainModel.Type> types = new ArrayList<>();
                for (PlainModel.Bound b : method.bounds()) {
                    boolean takesBound = b.type().parts().isEmpty() && chance(60);
                    types.add(takesBound ? b.type() : type(scope, 1, true));
                }
                Map<Character, PlainModel.Type> by = model.methodFilling(owner, method, types);
                if (model.liesIn(PlainModel.filled(method.result(), by), aim, scope) || chance(spoilt)) {
                    StringBuilder s = new StringBuilder(selectable(wanted(of, names, scope, depth + 1)));
                    s.append('.').append(name).append(showAll(types)).append('(');
                    String comma = "";
                    for (PlainModel.Parameter p : method.parameters()) {
                        PlainModel.Type due = PlainModel.filled(p.type(), by);
                        s.append(comma).append(wanted(due, names, scope, depth + 1));
                        comma = ",";
                    }
                    return s.append(')').toString();
                }
            }
        }
        return null;
    }

    private String bySelection(PlainModel.Type aim, Map<Character, PlainModel.Type> names,
            Map<Character, PlainModel.Type> scope, int depth) {
        for (int i = 0; i < 8; i++) {
            PlainModel.Type of = receiver(names, scope);
            PlainModel.Type bound = of.isVariable() ? scope.get(of.name()) : of;
            if (bound != null && model.classes.containsKey(bound.name())) {
                for (PlainModel.Field field : model.fieldsOf(bound)) {
                    if (model.liesIn(field.type(), aim, scope) || chance(spoilt)) {
                        return selectable(wanted(of, names, scope, depth + 1)) + "." + field.name();
                    }
                }
            }
        }
        return null;
    }

    private PlainModel.Type receiver(Map<Character, PlainModel.Type> names, Map<Character, PlainModel.Type> scope) {
        List<PlainModel.Type> known = new ArrayList<>(names.values());
        return !known.isEmpty() && chance(60) ? known.get(random.nextInt(known.size())) : type(scope, 0, false);
    }

    private static String selectable(String s) {
        return s.startsWith("(") && s.length() > 1 && s.charAt(1) <= 'H' && s.charAt(1) >= 'A' ? "(" + s + ")" : s;
    }

    private String byMaking(PlainModel.Type aim, Map<Character, PlainModel.Type> names,
            Map<Character, PlainModel.Type> scope, int depth) {
        PlainModel.Type type = aim;
        for (int i = 0; i < 6 && chance(40); i++) {
            PlainModel.Type other = type(scope, 0, false);
            if (model.liesIn(other, aim, scope)) {
                type = other;
            }
        }
        if (type.isVariable() || !model.classes.containsKey(type.name())) {
            type = new PlainModel.Type('A', List.of());
        }
        StringBuilder s = new StringBuilder("*").append(show(type)).append('(');
        String comma = "";
        for (PlainModel.Field field : depth > 6 ? List.<PlainModel.Field>of() : model.fieldsOf(type)) {
            if (!chance(spoilt / 3)) {
                s.append(comma).append(wanted(field.type(), names, scope, depth + 1));
                comma = ",";
            }
        }
        return s.append(')').toString();
    }

    private String spoil(String made) {
        StringBuilder s = new StringBuilder(made);
        for (int i = 0; i < 4 && chance(spoilt * 2); i++) {
            int p = random.nextInt(s.length() + 1);
            int way = random.nextInt(4);
            if (way == 0 && p < s.length()) {
                s.deleteCharAt(p);
            } else if (way == 1 && p < s.length()) {
                s.setCharAt(p, oneOf(ANY));
            } else if (way == 2) {
                s.insert(p, oneOf(ANY));
            } else {
                s.insert(p, ' ');
            }
        }
        return s.toString();
    }
}
