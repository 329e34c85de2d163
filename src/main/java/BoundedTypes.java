import java.util.ArrayList;
import java.util.Arrays;

/**
 * A small language of classes with type parameters: classes are checked as they are declared, expressions before
 * they are run; what runs knows no types any more but those that casts ask for.
 */
public final class BoundedTypes {
    private static final int NONE = -1;
    private static final int MOST_TYPED = 140;
    private static final int MOST_FUEL = 40;
    private static final int MOST_BRACKETS = 8;
    private static final int MOST_FIELDS = 6;
    /** The most types in a list, variables in bounds and parameters of a method. */
    private static final int MOST_LISTED = 3;
    private static final int CLASSES = 8;
    private static final int VARIABLES = 8;
    private static final int NAMES = 26;
    /** The name t, counted from a. */
    private static final int SELF = 't' - 'a';
    private static final int REFUSED = -100000;

    private final char[] typed;
    private int typedCount;
    private final Types types;
    private final Code code;
    private final Rules rules;
    private final Reader reader;
    private final Expressions expressions;
    private final Declarations declarations;
    private final Machine machine;

    public BoundedTypes() {
        typed = new char[MOST_TYPED];
        types = new Types();
        code = new Code();
        rules = new Rules(types);
        reader = new Reader(typed, types, code);
        expressions = new Expressions(types, code, rules);
        declarations = new Declarations(types, rules, expressions);
        machine = new Machine(types, code, rules);
    }

    public boolean type(int word, int n) {
        if (n < 1 || n > 4 || typedCount + n > MOST_TYPED || !areCharacters(word, n)) {
            return false;
        }
        for (int k = n - 1; k >= 0; k--) {
            typed[typedCount] = (char) byteOf(word, k);
            typedCount++;
        }
        return true;
    }

    public int declare() {
        int typesBefore = types.count;
        int codeBefore = code.count;
        Entry entry = reader.readDeclaration(typedCount);
        typedCount = 0;
        int typesRead = types.count;
        int answer = reader.answerIfFaulty();
        if (answer == 0) {
            answer = -1000 * declarations.wrongInHead(entry);
        }
        if (answer == 0) {
            answer = -1000 * declarations.wrongInMembers(entry);
        }
        if (answer == 0) {
            answer = -1000 * declarations.wrongInBodies(entry);
        }
        if (answer < 0) {
            rules.remove(entry);
            types.forget(typesBefore);
            code.forget(codeBefore);
            return answer;
        }
        types.forget(typesRead);
        return rules.classCount();
    }

    public int run(int fuel) {
        if (fuel < 0 || fuel > MOST_FUEL) {
            return REFUSED;
        }
        int typesBefore = types.count;
        int codeBefore = code.count;
        reader.readExpression(typedCount);
        typedCount = 0;
        machine.dropValue();
        int answer = reader.answerIfFaulty();
        if (answer == 0) {
            rules.leaveScope();
            expressions.standIn(NONE, null);
            answer = -1000 * expressions.wrongIn(codeBefore, code.count);
        }
        if (answer == 0) {
            answer = machine.execute(codeBefore, code.count, fuel);
        }
        types.forget(typesBefore);
        code.forget(codeBefore);
        return answer;
    }

    public int length() {
        return machine.textLength;
    }

    public int at(int i) {
        return i < 0 || i >= machine.textLength ? NONE : machine.text[i];
    }

    public int left() {
        return machine.fuel;
    }

    public int fields(int c) {
        Entry entry = rules.entryNamed(c);
        return entry == null ? NONE : entry.fieldCount;
    }

    public int method(int c, int m) {
        return rules.classWithMethod(c, m);
    }

    private static int byteOf(int word, int k) {
        return (word >>> (8 * k)) & 255;
    }

    private static boolean areCharacters(int word, int n) {
        for (int k = 0; k < n; k++) {
            int c = byteOf(word, k);
            if (c < 32 || c > 126) {
                return false;
            }
        }
        return true;
    }

    /**
     * Every type that has been met, each once, so that two types are the same if their numbers are, however large
     * filling in has made them. A variable's number is its letter counted from S.
     */
    private static final class Types {
        /** Stands where a class would, for the types that a call names. */
        static final int LIST = CLASSES;
        private static final int FIRST_SIZE = 512;
        private static final int MOST_SIZE = 1 << 15;
        /** More than are in one text, and so more than reading one, or filling in one type, can make. */
        private static final int ROOM = 256;
        private static final int BUCKETS = 1024;

        private int[] classes = new int[FIRST_SIZE];
        private int[] parts = new int[MOST_LISTED * FIRST_SIZE];
        /** A bit for each variable and each class that stands in a type. */
        private int[] held = new int[FIRST_SIZE];
        private int[] buckets = new int[FIRST_SIZE];
        private int[] next = new int[FIRST_SIZE];
        private final int[] heads = new int[BUCKETS];
        private int count = VARIABLES;

        Types() {
            Arrays.fill(heads, NONE);
            for (int v = 0; v < VARIABLES; v++) {
                classes[v] = NONE;
                held[v] = variableBit(v);
            }
            for (int p = 0; p < MOST_LISTED * VARIABLES; p++) {
                parts[p] = NONE;
            }
        }

        static int variableBit(int variable) {
            return 1 << variable;
        }

        static int classBit(int name) {
            return 1 << (VARIABLES + name);
        }

        boolean isVariable(int type) {
            return type >= 0 && type < VARIABLES;
        }

        int classOf(int type) {
            return type >= 0 && type < count ? classes[type] : NONE;
        }

        int part(int type, int i) {
            return type >= 0 && type < count && i >= 0 && i < MOST_LISTED ? parts[MOST_LISTED * type + i] : NONE;
        }

        int partCount(int type) {
            int n = 0;
            for (int i = 0; i < MOST_LISTED; i++) {
                n += part(type, i) == NONE ? 0 : 1;
            }
            return n;
        }

        int heldIn(int type) {
            return type >= 0 && type < count ? held[type] : 0;
        }

        boolean holdsVariable(int type) {
            return type >= 0 && type < count && (held[type] & ((1 << VARIABLES) - 1)) != 0;
        }

        int classType(int name, int first, int second, int third) {
            int mixed = ((name * 31 + first) * 31 + second) * 31 + third;
            int bucket = (mixed ^ (mixed >>> 10)) & (BUCKETS - 1);
            int p = 0;
            int type = heads[bucket];
            for (int k = 0; k < count && type != NONE; k++) {
                p = MOST_LISTED * type;
                if (classes[type] == name && parts[p] == first && parts[p + 1] == second && parts[p + 2] == third) {
                    return type;
                }
                type = next[type];
            }
            if (count >= classes.length) {
                return NONE;
            }
            type = count;
            p = MOST_LISTED * type;
            classes[type] = name;
            parts[p] = first;
            parts[p + 1] = second;
            parts[p + 2] = third;
            held[type] = 1 << (VARIABLES + name);
            for (int i = 0; i < MOST_LISTED; i++) {
                held[type] |= parts[p + i] >= 0 && parts[p + i] < type ? held[parts[p + i]] : 0;
            }
            buckets[type] = bucket;
            next[type] = heads[bucket];
            heads[bucket] = type;
            count++;
            return type;
        }

        /** The newest stand first in their buckets, so they are taken out in the opposite order. */
        void forget(int mark) {
            int kept = Math.max(mark, VARIABLES);
            for (int type = count - 1; type >= kept; type--) {
                heads[buckets[type]] = next[type];
            }
            count = Math.min(count, kept);
        }

        void makeRoom() {
            int size = 2 * classes.length;
            if (classes.length - count >= ROOM || size > MOST_SIZE) {
                return;
            }
            classes = Arrays.copyOf(classes, size);
            parts = Arrays.copyOf(parts, MOST_LISTED * size);
            held = Arrays.copyOf(held, size);
            buckets = Arrays.copyOf(buckets, size);
            next = Arrays.copyOf(next, size);
        }
    }

    /**
     * Expressions as rows of steps, each behind those that it needs. A call and a new object have two steps, one
     * before their expressions, where they are checked, and one behind them, where they are run.
     */
    private static final class Code {
        static final int NAME = 0;
        static final int FIELD = 1;
        static final int OPEN_CALL = 2;
        static final int CALL = 3;
        static final int OPEN_NEW = 4;
        static final int NEW = 5;
        static final int ARGUMENT = 6;
        static final int CAST = 7;
        /** No step stands for less than one character; seven classes can be declared, beside one run. */
        private static final int SIZE = CLASSES * MOST_TYPED;

        private final int[] kinds = new int[SIZE];
        private final int[] subjects = new int[SIZE];
        private final int[] amounts = new int[SIZE];
        private final int[] lists = new int[SIZE];
        private int count;

        int add(int kind, int subject, int amount, int list) {
            if (count >= SIZE) {
                return NONE;
            }
            kinds[count] = kind;
            subjects[count] = subject;
            amounts[count] = amount;
            lists[count] = list;
            count++;
            return count - 1;
        }

        void setAmount(int step, int amount) {
            if (step >= 0 && step < count) {
                amounts[step] = amount;
            }
        }

        void forget(int mark) {
            count = Math.max(0, Math.min(count, mark));
        }
    }

    /** Variables with their bounds, of a class or of a method. */
    private static final class Bounds {
        private final int[] variables = new int[MOST_LISTED];
        private final int[] types = new int[MOST_LISTED];
        private int count;

        void add(int variable, int type) {
            if (count < MOST_LISTED) {
                variables[count] = variable;
                types[count] = type;
                count++;
            }
        }

        boolean has(int variable) {
            return indexOf(variable) != NONE;
        }

        boolean hasTwice() {
            for (int i = 0; i < count; i++) {
                if (indexOf(variables[i]) != i) {
                    return true;
                }
            }
            return false;
        }

        boolean hasOneOf(Bounds other) {
            for (int i = 0; i < count; i++) {
                if (other.has(variables[i])) {
                    return true;
                }
            }
            return false;
        }

        int variable(int i) {
            return i < count ? variables[i] : NONE;
        }

        private int indexOf(int variable) {
            for (int i = 0; i < count; i++) {
                if (variables[i] == variable) {
                    return i;
                }
            }
            return NONE;
        }
    }

    /** A field, or a method: then it has bounds, parameters and the steps of its expression. */
    private static final class Member {
        private final int name;
        /** The type of a field, or of what a method gives. */
        private final int result;
        private boolean isMethod;
        private final Bounds bounds = new Bounds();
        private final int[] parameterNames = new int[MOST_LISTED];
        private final int[] parameterTypes = new int[MOST_LISTED];
        private int parameterCount;
        private int codeStart;
        private int codeEnd;

        Member(int name, int result) {
            this.name = name;
            this.result = result;
        }

        void addParameter(int parameter, int type) {
            if (parameterCount < MOST_LISTED) {
                parameterNames[parameterCount] = parameter;
                parameterTypes[parameterCount] = type;
                parameterCount++;
            }
        }

        int indexOf(int parameter) {
            for (int i = 0; i < parameterCount; i++) {
                if (parameterNames[i] == parameter) {
                    return i;
                }
            }
            return NONE;
        }

        boolean hasBadParameterNames() {
            for (int i = 0; i < parameterCount; i++) {
                if (parameterNames[i] == SELF || indexOf(parameterNames[i]) != i) {
                    return true;
                }
            }
            return false;
        }
    }

    /** A class. Its members stand in the order of the text; fields and methods are what has been found right. */
    private static final class Entry {
        private final int name;
        private final Bounds bounds;
        private final int above;
        private final int aboveClass;
        private final ArrayList<Member> members = new ArrayList<>();
        private final Member[] methods = new Member[NAMES];
        private final int[] fieldNames = new int[MOST_FIELDS];
        /** Only for the fields of its own: the others are filled in anew for each class type. */
        private final int[] fieldTypes = new int[MOST_FIELDS];
        private int firstOwnField;
        private int fieldCount;

        Entry(int name, Bounds bounds, int above, int aboveClass) {
            this.name = name;
            this.bounds = bounds;
            this.above = above;
            this.aboveClass = aboveClass;
        }

        void takeFieldsOf(Entry other) {
            System.arraycopy(other.fieldNames, 0, fieldNames, 0, MOST_FIELDS);
            fieldCount = other.fieldCount;
            firstOwnField = other.fieldCount;
        }

        void addField(int field, int type) {
            if (fieldCount < MOST_FIELDS) {
                fieldNames[fieldCount] = field;
                fieldTypes[fieldCount] = type;
                fieldCount++;
            }
        }

        int indexOfField(int field) {
            for (int i = 0; i < fieldCount; i++) {
                if (fieldNames[i] == field) {
                    return i;
                }
            }
            return NONE;
        }

        Member methodNamed(int method) {
            return method >= 0 && method < NAMES ? methods[method] : null;
        }
    }

    /** Reads what is typed, from the left. A character that cannot be is made FAULT: nothing fits there any more. */
    private static final class Reader {
        /** No typed character is like these two. */
        private static final char END = 0;
        private static final char FAULT = 1;

        private final char[] text;
        private final Types types;
        private final Code code;
        /** The characters but for spaces, and where they stand in the text. */
        private final char[] marks = new char[MOST_TYPED + 1];
        private final int[] places = new int[MOST_TYPED + 1];
        private int now;
        private int depth;
        private final int[] casts = new int[MOST_TYPED];
        private int castCount;
        private Member inside;

        Reader(char[] text, Types types, Code code) {
            this.text = text;
            this.types = types;
            this.code = code;
        }

        Entry readDeclaration(int typedCount) {
            start(typedCount);
            int name = takeLetter('A', 'H');
            Bounds bounds = new Bounds();
            readBounds(bounds);
            take(':');
            int above = readType(false);
            Entry entry = new Entry(name, bounds, above, types.classOf(above));
            open('{');
            for (int k = 0; k < MOST_TYPED && marks[now] != '}' && marks[now] != FAULT; k++) {
                entry.members.add(readMember());
            }
            close('}');
            takeEnd();
            return entry;
        }

        void readExpression(int typedCount) {
            start(typedCount);
            expression();
            takeEnd();
        }

        /** 0 if what was read is not faulty. */
        int answerIfFaulty() {
            return marks[now] == FAULT ? -1 - places[now] : 0;
        }

        private void start(int typedCount) {
            int count = 0;
            for (int p = 0; p < typedCount && p < text.length && p < MOST_TYPED; p++) {
                if (text[p] != ' ') {
                    marks[count] = text[p];
                    places[count] = p;
                    count++;
                }
            }
            marks[count] = END;
            places[count] = typedCount;
            now = 0;
            depth = 0;
            castCount = 0;
            inside = null;
            types.makeRoom();
        }

        private void take(char mark) {
            if (marks[now] == mark) {
                now++;
            } else {
                marks[now] = FAULT;
            }
        }

        private void takeEnd() {
            if (marks[now] != END) {
                marks[now] = FAULT;
            }
        }

        private int takeLetter(char first, char last) {
            if (marks[now] < first || marks[now] > last) {
                marks[now] = FAULT;
                return 0;
            }
            now++;
            return marks[now - 1] - first;
        }

        private void open(char bracket) {
            if (marks[now] == bracket && depth < MOST_BRACKETS) {
                now++;
                depth++;
            } else {
                marks[now] = FAULT;
            }
        }

        private void close(char bracket) {
            if (marks[now] == bracket) {
                now++;
                depth--;
            } else {
                marks[now] = FAULT;
            }
        }

        private int readType(boolean mayBeVariable) {
            if (mayBeVariable && marks[now] >= 'S' && marks[now] <= 'Z') {
                now++;
                return marks[now - 1] - 'S';
            }
            int name = takeLetter('A', 'H');
            return marks[now] == '[' ? readListed(name) : types.classType(name, NONE, NONE, NONE);
        }

        /** The depth of the brackets, which open() looks at, ends this recursion, and that of expressions. */
        private int readListed(int name) {
            open('[');
            int first = readType(true);
            int second = NONE;
            int third = NONE;
            if (marks[now] == ',') {
                now++;
                second = readType(true);
                if (marks[now] == ',') {
                    now++;
                    third = readType(true);
                }
            }
            close(']');
            return types.classType(name, first, second, third);
        }

        private void readBounds(Bounds bounds) {
            if (marks[now] != '[') {
                return;
            }
            open('[');
            boolean goesOn = true;
            for (int i = 0; i < MOST_LISTED && goesOn; i++) {
                int variable = takeLetter('S', 'Z');
                take(':');
                bounds.add(variable, readType(false));
                goesOn = takeComma(i + 1 < MOST_LISTED);
            }
            close(']');
        }

        private boolean takeComma(boolean mayFollow) {
            boolean follows = mayFollow && marks[now] == ',';
            now += follows ? 1 : 0;
            return follows;
        }

        private Member readMember() {
            int result = readType(true);
            Member member = new Member(takeLetter('a', 'z'), result);
            if (marks[now] != ';') {
                member.isMethod = true;
                readBounds(member.bounds);
                readParameters(member);
                take('=');
                inside = member;
                member.codeStart = code.count;
                expression();
                member.codeEnd = code.count;
            }
            take(';');
            return member;
        }

        private void readParameters(Member member) {
            open('(');
            boolean goesOn = marks[now] != ')';
            for (int i = 0; i < MOST_LISTED && goesOn; i++) {
                int type = readType(true);
                member.addParameter(takeLetter('a', 'z'), type);
                goesOn = takeComma(i + 1 < MOST_LISTED);
            }
            close(')');
        }

        private void expression() {
            int firstCast = castCount;
            for (int k = 0; k < MOST_TYPED && isAtCast() && castCount < MOST_TYPED; k++) {
                open('(');
                casts[castCount] = readType(false);
                castCount++;
                close(')');
            }
            base();
            for (int k = 0; k < MOST_TYPED && marks[now] == '.'; k++) {
                selection();
            }
            for (int k = castCount - 1; k >= firstCast; k--) {
                code.add(Code.CAST, casts[k], 0, NONE);
            }
            castCount = firstCast;
        }

        private boolean isAtCast() {
            return marks[now] == '(' && marks[now + 1] >= 'A' && marks[now + 1] <= 'H';
        }

        private void base() {
            if (marks[now] == '(') {
                open('(');
                expression();
                close(')');
            } else if (marks[now] == '*') {
                now++;
                int type = readType(false);
                int step = code.add(Code.OPEN_NEW, type, 0, NONE);
                int amount = arguments();
                code.setAmount(step, amount);
                code.add(Code.NEW, types.classOf(type), amount, NONE);
            } else {
                code.add(Code.NAME, slotOf(takeLetter('a', 'z')), 0, NONE);
            }
        }

        private void selection() {
            take('.');
            int name = takeLetter('a', 'z');
            if (marks[now] != '(' && marks[now] != '[') {
                code.add(Code.FIELD, name, 0, NONE);
                return;
            }
            int list = marks[now] == '[' ? readListed(Types.LIST) : NONE;
            int step = code.add(Code.OPEN_CALL, name, 0, list);
            int amount = arguments();
            code.setAmount(step, amount);
            code.add(Code.CALL, name, amount, NONE);
        }

        private int arguments() {
            open('(');
            int amount = 0;
            boolean goesOn = marks[now] != ')';
            for (int k = 0; k < MOST_TYPED && goesOn; k++) {
                expression();
                code.add(Code.ARGUMENT, 0, 0, NONE);
                amount++;
                goesOn = takeComma(true);
            }
            close(')');
            return amount;
        }

        /** Where the running call holds the value of a name: t, then the parameters. */
        private int slotOf(int name) {
            if (inside == null) {
                return NONE;
            }
            int parameter = inside.indexOf(name);
            return name == SELF ? 0 : parameter == NONE ? NONE : 1 + parameter;
        }
    }

    /** The classes that are there, the variables in scope, and what types are to one another. */
    private static final class Rules {
        /** A variable, its bound, and all classes above that. */
        private static final int MOST_STEPS = CLASSES + 1;

        private final Types types;
        private final Entry[] entries = new Entry[CLASSES];
        private final int[] scope = new int[VARIABLES];
        /** What is filled in for each variable. */
        private final int[] standing = new int[VARIABLES];

        Rules(Types types) {
            this.types = types;
            entries[0] = new Entry(0, new Bounds(), NONE, NONE);
            Arrays.fill(scope, NONE);
        }

        Entry entryNamed(int name) {
            return name >= 0 && name < CLASSES ? entries[name] : null;
        }

        Entry entryOf(int type) {
            return entryNamed(types.classOf(type));
        }

        void add(Entry entry) {
            if (entry.name >= 0 && entry.name < CLASSES) {
                entries[entry.name] = entry;
            }
        }

        void remove(Entry entry) {
            if (entryNamed(entry.name) == entry) {
                entries[entry.name] = null;
            }
        }

        int classCount() {
            int n = 0;
            for (int c = 0; c < CLASSES; c++) {
                n += entries[c] == null ? 0 : 1;
            }
            return n;
        }

        /** The class of that name, or the first one above it, that has such a method of its own. */
        int classWithMethod(int name, int method) {
            int c = name;
            for (int step = 0; step < CLASSES; step++) {
                Entry entry = entryNamed(c);
                if (entry == null || entry.methodNamed(method) != null) {
                    return entry == null ? NONE : c;
                }
                c = entry.aboveClass;
            }
            return NONE;
        }

        boolean isClassBelow(int name, int other) {
            int c = name;
            for (int step = 0; step < CLASSES; step++) {
                Entry entry = entryNamed(c);
                if (entry == null || c == other) {
                    return entry != null;
                }
                c = entry.aboveClass;
            }
            return false;
        }

        void leaveScope() {
            Arrays.fill(scope, NONE);
        }

        void enterScope(Bounds bounds) {
            for (int i = 0; i < bounds.count; i++) {
                scope[bounds.variables[i]] = bounds.types[i];
            }
        }

        int boundOf(int type) {
            return types.isVariable(type) ? scope[type] : type;
        }

        /** Only types that were written come here: they are no deeper than brackets are. */
        private boolean good(int type, int depth) {
            if (types.isVariable(type)) {
                return scope[type] != NONE;
            }
            Entry entry = entryOf(type);
            if (entry == null || depth > MOST_BRACKETS || types.partCount(type) != entry.bounds.count) {
                return false;
            }
            int mark = types.count;
            boolean isGood = true;
            for (int i = 0; i < entry.bounds.count && isGood; i++) {
                isGood = good(types.part(type, i), depth + 1);
            }
            for (int i = 0; i < entry.bounds.count && isGood; i++) {
                standFor(entry, type);
                isGood = liesIn(types.part(type, i), filled(entry.bounds.types[i], 0));
                types.forget(mark);
            }
            return isGood;
        }

        boolean liesIn(int type, int other) {
            int mark = types.count;
            int reached = type;
            for (int step = 0; step < MOST_STEPS && reached != NONE && reached != other; step++) {
                if (types.isVariable(reached)) {
                    reached = scope[reached];
                } else {
                    Entry entry = entryOf(reached);
                    standFor(entry, reached);
                    reached = entry == null ? NONE : filled(entry.above, 0);
                }
            }
            types.forget(mark);
            return reached == other && other != NONE;
        }

        /** Whether a cast down to the type knows all that its class and those up to the other one are filled with. */
        boolean isKnownBelow(int type, int other) {
            int c = types.classOf(type);
            int last = types.classOf(other);
            for (int step = 0; step < CLASSES && c != last; step++) {
                Entry entry = entryNamed(c);
                if (entry == null) {
                    return false;
                }
                for (int i = 0; i < entry.bounds.count; i++) {
                    if ((types.heldIn(entry.above) & Types.variableBit(entry.bounds.variables[i])) == 0) {
                        return false;
                    }
                }
                c = entry.aboveClass;
            }
            return c == last;
        }

        /** What a class type is below. */
        int above(int type) {
            Entry entry = entryOf(type);
            standFor(entry, type);
            return entry == null ? NONE : filled(entry.above, 0);
        }

        int fieldType(int type, int field) {
            int reached = type;
            for (int step = 0; step < CLASSES; step++) {
                Entry entry = entryOf(reached);
                int i = entry == null ? NONE : entry.indexOfField(field);
                if (i == NONE) {
                    return NONE;
                }
                if (i >= entry.firstOwnField) {
                    return fieldFilled(entry, reached, i);
                }
                reached = above(reached);
            }
            return NONE;
        }

        /** The types of all fields of a class type, in their order; how many there are. */
        int fieldTypes(int type, int[] found) {
            Entry lowest = entryOf(type);
            int reached = type;
            for (int step = 0; step < CLASSES; step++) {
                Entry entry = entryOf(reached);
                if (entry == null) {
                    break;
                }
                for (int i = entry.firstOwnField; i < entry.fieldCount && i < found.length; i++) {
                    found[i] = fieldFilled(entry, reached, i);
                }
                reached = above(reached);
            }
            return lowest == null ? 0 : lowest.fieldCount;
        }

        private int fieldFilled(Entry entry, int type, int i) {
            standFor(entry, type);
            return filled(entry.fieldTypes[i], 0);
        }

        /** The class type, from the given one upwards, whose class has such a method of its own. */
        int ownerOf(int type, int method) {
            int reached = type;
            for (int step = 0; step < CLASSES; step++) {
                Entry entry = entryOf(reached);
                if (entry == null || entry.methodNamed(method) != null) {
                    return entry == null ? NONE : reached;
                }
                reached = above(reached);
            }
            return NONE;
        }

        Member ownMethod(int owner, int method) {
            Entry entry = entryOf(owner);
            return entry == null ? null : entry.methodNamed(method);
        }

        /** A type of a method's, filled in for the class type that owns it and for the types that a call names. */
        int methodFilled(int written, int owner, Member method, int list) {
            standFor(entryOf(owner), owner);
            for (int i = 0; i < method.bounds.count; i++) {
                standing[method.bounds.variables[i]] = types.part(list, i);
            }
            return filled(written, 0);
        }

        /** All at once, for a class's variables may be those that are filled in for another's. */
        private void standFor(Entry entry, int type) {
            for (int v = 0; v < VARIABLES; v++) {
                standing[v] = v;
            }
            for (int i = 0; entry != null && i < entry.bounds.count; i++) {
                standing[entry.bounds.variables[i]] = types.part(type, i);
            }
        }

        /** Only types that were written come here: they are no deeper than brackets are. */
        private int filled(int type, int depth) {
            if (types.isVariable(type)) {
                return standing[type];
            }
            if (!types.holdsVariable(type) || depth > MOST_BRACKETS) {
                return type;
            }
            if (depth == 0) {
                types.makeRoom();
            }
            int first = filled(types.part(type, 0), depth + 1);
            int second = filled(types.part(type, 1), depth + 1);
            int third = filled(types.part(type, 2), depth + 1);
            return types.classType(types.classOf(type), first, second, third);
        }
    }

    /** What is wrong in an expression; 0 if nothing is. */
    private static final class Expressions {
        /** In each of eight brackets: a type to come, and what is awaited of at most six expressions. */
        private static final int MOST_OPEN = (MOST_BRACKETS + 1) * (MOST_FIELDS + 2);

        private final Types types;
        private final Code code;
        private final Rules rules;
        private final int[] stack = new int[MOST_OPEN];
        private int top;
        private final int[] awaited = new int[MOST_FIELDS];
        private int self;
        private Member inside;

        Expressions(Types types, Code code, Rules rules) {
            this.types = types;
            this.code = code;
            this.rules = rules;
        }

        /** The names that the expressions to come may use: t of that type, and the method's parameters. */
        void standIn(int selfType, Member method) {
            self = selfType;
            inside = method;
        }

        int wrongIn(int start, int end) {
            top = 0;
            int wrong = 0;
            for (int step = start; step < end && wrong == 0; step++) {
                int subject = code.subjects[step];
                switch (code.kinds[step]) {
                    case Code.NAME:
                        wrong = wrongInName(subject);
                        break;
                    case Code.FIELD:
                        wrong = wrongInField(subject);
                        break;
                    case Code.OPEN_CALL:
                        wrong = wrongInCall(subject, code.amounts[step], code.lists[step]);
                        break;
                    case Code.OPEN_NEW:
                        wrong = wrongInNew(subject, code.amounts[step]);
                        break;
                    case Code.ARGUMENT:
                        wrong = wrongInArgument();
                        break;
                    case Code.CAST:
                        wrong = wrongInCast(subject);
                        break;
                    default:
                        break;
                }
            }
            return wrong;
        }

        /** The type of the expression that was last found right. */
        int found() {
            return top > 0 ? stack[top - 1] : NONE;
        }

        private int wrongInName(int slot) {
            if (slot == NONE || inside == null || slot > inside.parameterCount) {
                return 5;
            }
            push(slot == 0 ? self : inside.parameterTypes[slot - 1]);
            return 0;
        }

        private int wrongInField(int name) {
            int type = rules.fieldType(rules.boundOf(pop()), name);
            push(type);
            return type == NONE ? 6 : 0;
        }

        private int wrongInCall(int name, int amount, int list) {
            int owner = rules.ownerOf(rules.boundOf(pop()), name);
            Member method = rules.ownMethod(owner, name);
            if (method == null || method.bounds.count != types.partCount(list) || method.parameterCount != amount) {
                return 7;
            }
            for (int i = 0; i < method.bounds.count; i++) {
                if (!rules.good(types.part(list, i), 0)) {
                    return 8;
                }
            }
            for (int i = 0; i < method.bounds.count; i++) {
                int bound = rules.methodFilled(method.bounds.types[i], owner, method, list);
                if (!rules.liesIn(types.part(list, i), bound)) {
                    return 8;
                }
            }
            push(rules.methodFilled(method.result, owner, method, list));
            for (int i = amount - 1; i >= 0; i--) {
                push(rules.methodFilled(method.parameterTypes[i], owner, method, list));
            }
            return 0;
        }

        private int wrongInNew(int type, int amount) {
            if (!rules.good(type, 0)) {
                return 8;
            }
            if (rules.fieldTypes(type, awaited) != amount) {
                return 7;
            }
            push(type);
            for (int i = amount - 1; i >= 0; i--) {
                push(awaited[i]);
            }
            return 0;
        }

        private int wrongInArgument() {
            int given = pop();
            return rules.liesIn(given, pop()) ? 0 : 9;
        }

        private int wrongInCast(int type) {
            int bound = rules.boundOf(pop());
            if (!rules.good(type, 0)) {
                return 8;
            }
            push(type);
            if (rules.liesIn(bound, type)) {
                return 0;
            }
            return rules.liesIn(type, bound) && rules.isKnownBelow(type, bound) ? 0 : 10;
        }

        private void push(int type) {
            if (top < MOST_OPEN) {
                stack[top] = type;
                top++;
            }
        }

        private int pop() {
            if (top == 0) {
                return NONE;
            }
            top--;
            return stack[top];
        }
    }

    /** What is wrong in a declaration, in three parts that follow one another; 0 if nothing is. */
    private static final class Declarations {
        private final Types types;
        private final Rules rules;
        private final Expressions expressions;

        Declarations(Types types, Rules rules, Expressions expressions) {
            this.types = types;
            this.rules = rules;
            this.expressions = expressions;
        }

        /** From here on the class is there: the caller removes it again if something is wrong. */
        int wrongInHead(Entry entry) {
            if (rules.entryNamed(entry.name) != null || entry.bounds.hasTwice()) {
                return 1;
            }
            boolean isBelowItself = (types.heldIn(entry.above) & Types.classBit(entry.name)) != 0;
            Entry above = rules.entryNamed(entry.aboveClass);
            if (isBelowItself || above == null) {
                return 2;
            }
            rules.add(entry);
            enter(entry, null);
            if (!areGood(entry.bounds.types, entry.bounds.count) || !rules.good(entry.above, 0)) {
                return 2;
            }
            entry.takeFieldsOf(above);
            return 0;
        }

        int wrongInMembers(Entry entry) {
            int wrong = 0;
            for (int i = 0; i < entry.members.size() && wrong == 0; i++) {
                Member member = entry.members.get(i);
                wrong = member.isMethod ? wrongInMethod(entry, member) : wrongInField(entry, member);
            }
            return wrong;
        }

        int wrongInBodies(Entry entry) {
            int self = types.classType(entry.name,
                entry.bounds.variable(0), entry.bounds.variable(1), entry.bounds.variable(2));
            int wrong = 0;
            for (int i = 0; i < entry.members.size() && wrong == 0; i++) {
                Member member = entry.members.get(i);
                if (member.isMethod) {
                    enter(entry, member);
                    expressions.standIn(self, member);
                    wrong = expressions.wrongIn(member.codeStart, member.codeEnd);
                    if (wrong == 0 && !rules.liesIn(expressions.found(), member.result)) {
                        wrong = 11;
                    }
                }
            }
            return wrong;
        }

        private void enter(Entry entry, Member method) {
            rules.leaveScope();
            rules.enterScope(entry.bounds);
            if (method != null) {
                rules.enterScope(method.bounds);
            }
        }

        private boolean areGood(int[] row, int count) {
            for (int i = 0; i < count; i++) {
                if (!rules.good(row[i], 0)) {
                    return false;
                }
            }
            return true;
        }

        private int wrongInField(Entry entry, Member field) {
            enter(entry, null);
            if (!rules.good(field.result, 0)) {
                return 2;
            }
            boolean isTaken = field.name == SELF || entry.indexOfField(field.name) != NONE;
            if (isTaken || entry.fieldCount == MOST_FIELDS) {
                return 3;
            }
            entry.addField(field.name, field.result);
            return 0;
        }

        private int wrongInMethod(Entry entry, Member method) {
            if (method.bounds.hasTwice() || method.bounds.hasOneOf(entry.bounds)) {
                return 1;
            }
            enter(entry, method);
            if (!areGood(method.bounds.types, method.bounds.count) || !rules.good(method.result, 0)
                || !areGood(method.parameterTypes, method.parameterCount)) {
                return 2;
            }
            if (method.hasBadParameterNames() || entry.methodNamed(method.name) != null) {
                return 3;
            }
            if (!fitsAbove(entry, method)) {
                return 4;
            }
            entry.methods[method.name] = method;
            return 0;
        }

        private boolean fitsAbove(Entry entry, Member method) {
            int owner = rules.ownerOf(entry.above, method.name);
            Member other = rules.ownMethod(owner, method.name);
            if (other == null) {
                return true;
            }
            if (other.bounds.count != method.bounds.count || other.parameterCount != method.parameterCount) {
                return false;
            }
            int list = types.classType(Types.LIST,
                method.bounds.variable(0), method.bounds.variable(1), method.bounds.variable(2));
            for (int i = 0; i < method.bounds.count; i++) {
                if (rules.methodFilled(other.bounds.types[i], owner, other, list) != method.bounds.types[i]) {
                    return false;
                }
            }
            for (int i = 0; i < method.parameterCount; i++) {
                if (rules.methodFilled(other.parameterTypes[i], owner, other, list) != method.parameterTypes[i]) {
                    return false;
                }
            }
            return rules.liesIn(method.result, rules.methodFilled(other.result, owner, other, list));
        }
    }

    /** Runs the steps of an expression that was found right, and holds the text of the value that it gave. */
    private static final class Machine {
        private static final int GAVE = 1;
        private static final int STUCK = 2;
        private static final int NO_FUEL = 3;
        private static final int TOO_DEEP = 4;
        private static final int GOES_ON = 0;
        private static final int MOST_CALLS = 12;
        private static final int MOST_TEXT = 200;
        /** A value and its fields take less than half as many cells as characters; bodies are run once a call. */
        private static final int CELLS = (MOST_FUEL + 1) * MOST_TYPED / 2;
        /** No value waits for less than two characters of the expressions that are under way. */
        private static final int MOST_WAITING = (MOST_CALLS + 1) * (MOST_TYPED / 2 + MOST_LISTED + 1);
        /** Far above all the steps that the fuel allows. */
        private static final int MOST_STEPS = 1000000;

        private final Types types;
        private final Code code;
        private final Rules rules;
        /** A value is the place of its class here; its fields stand behind. */
        private final int[] cells = new int[CELLS];
        private int cellCount;
        private final int[] stack = new int[MOST_WAITING];
        private int top;
        private final int[] frames = new int[3 * MOST_CALLS];
        private int calls;
        private int base;
        private int place;
        private int end;
        private int fuel;
        private final char[] text = new char[MOST_TEXT];
        private int textLength;
        private final int[] openValues = new int[MOST_TEXT];
        private final int[] openFields = new int[MOST_TEXT];

        Machine(Types types, Code code, Rules rules) {
            this.types = types;
            this.code = code;
            this.rules = rules;
        }

        void dropValue() {
            textLength = 0;
        }

        int execute(int start, int stop, int fuelGiven) {
            fuel = fuelGiven;
            cellCount = 0;
            top = 0;
            calls = 0;
            base = 0;
            place = start;
            end = stop;
            int answer = GOES_ON;
            for (int k = 0; k < MOST_STEPS && answer == GOES_ON; k++) {
                if (place < end) {
                    answer = step();
                } else if (calls > 0) {
                    leaveCall();
                } else {
                    answer = GAVE;
                }
            }
            if (answer == GAVE) {
                writeText(peek());
            }
            return answer;
        }

        private int step() {
            int subject = code.subjects[place];
            int amount = code.amounts[place];
            int kind = code.kinds[place];
            place++;
            switch (kind) {
                case Code.NAME:
                    pushNamed(base + subject);
                    return GOES_ON;
                case Code.FIELD:
                    return selectField(subject);
                case Code.CALL:
                    return enterCall(subject, amount);
                case Code.NEW:
                    makeValue(subject, amount);
                    return GOES_ON;
                case Code.CAST:
                    return rules.isClassBelow(classOf(peek()), types.classOf(subject)) ? GOES_ON : STUCK;
                default:
                    return GOES_ON;
            }
        }

        private void pushNamed(int slot) {
            push(slot >= 0 && slot < top ? stack[slot] : NONE);
        }

        private int selectField(int name) {
            int value = peek();
            Entry entry = rules.entryNamed(classOf(value));
            int i = entry == null ? NONE : entry.indexOfField(name);
            if (i == NONE) {
                return STUCK;
            }
            stack[top - 1] = fieldOf(value, i);
            return GOES_ON;
        }

        private int enterCall(int name, int amount) {
            int newBase = top - amount - 1;
            int object = newBase < 0 ? 0 : stack[newBase];
            Entry entry = rules.entryNamed(rules.classWithMethod(classOf(object), name));
            Member method = entry == null ? null : entry.methodNamed(name);
            if (method == null) {
                return STUCK;
            }
            if (fuel == 0) {
                return NO_FUEL;
            }
            fuel--;
            if (calls >= MOST_CALLS) {
                return TOO_DEEP;
            }
            frames[3 * calls] = base;
            frames[3 * calls + 1] = place;
            frames[3 * calls + 2] = end;
            calls++;
            base = newBase;
            place = method.codeStart;
            end = method.codeEnd;
            return GOES_ON;
        }

        private void leaveCall() {
            int value = peek();
            top = base;
            push(value);
            calls--;
            base = frames[3 * calls];
            place = frames[3 * calls + 1];
            end = frames[3 * calls + 2];
        }

        private void makeValue(int name, int amount) {
            if (amount > top || cellCount + 1 + amount > CELLS) {
                return;
            }
            int value = cellCount;
            cells[value] = name;
            top -= amount;
            System.arraycopy(stack, top, cells, value + 1, amount);
            cellCount += 1 + amount;
            push(value);
        }

        private int classOf(int value) {
            return value >= 0 && value < cellCount ? cells[value] : NONE;
        }

        private int fieldOf(int value, int i) {
            return value + 1 + i < cellCount ? cells[value + 1 + i] : NONE;
        }

        private void push(int value) {
            if (top < MOST_WAITING) {
                stack[top] = value;
                top++;
            }
        }

        private int peek() {
            return top > 0 ? stack[top - 1] : NONE;
        }

        /** Values share their fields, so a text may be far too long to be written whole: it ends when it is full. */
        private void writeText(int value) {
            int open = openValue(0, value);
            for (int k = 0; k < MOST_STEPS && open > 0 && textLength < MOST_TEXT; k++) {
                int holder = openValues[open - 1];
                int i = openFields[open - 1];
                Entry entry = rules.entryNamed(classOf(holder));
                int count = entry == null ? 0 : entry.fieldCount;
                if (i < count) {
                    put(i == 0 ? '(' : ',');
                    openFields[open - 1] = i + 1;
                    open = openValue(open, fieldOf(holder, i));
                } else {
                    open--;
                    if (count > 0) {
                        put(')');
                    }
                }
            }
        }

        private int openValue(int open, int value) {
            if (open >= MOST_TEXT) {
                return open;
            }
            openValues[open] = value;
            openFields[open] = 0;
            put((char) ('A' + classOf(value)));
            return open + 1;
        }

        private void put(char c) {
            if (textLength < MOST_TEXT) {
                text[textLength] = c;
                textLength++;
            }
        }
    }
}
