import java.util.ArrayList;

/** Types with pointers, arrays, structs, unions and bit-fields, and how they lie in memory. */
public final class LayoutDesk {

    private static final int MAX_TYPES = 300;
    private static final int MAX_MEMBERS = 100;
    private static final int MAX_SIZE = 524288;

    /** The greatest alignment that there is, so types of 8 bytes have it too. */
    private static final int MAX_ALIGN = 4;
    private static final int POINTER_BYTES = 4;

    private static final int UNIT_BYTES = 4;
    private static final int UNIT_BITS = 32;
    private static final int SIGNED_UNIT = 5;
    private static final int UNSIGNED_UNIT = 6;
    private static final int NOT_NAMED = 100;

    private static final int STRUCT = 0;
    private static final int UNION = 1;

    private static final int BASIC = 0;
    private static final int POINTER = 1;
    private static final int ARRAY = 2;

    private static final int NONE = -1;

    private static final int[] BASIC_BYTES = {0, 1, 1, 2, 2, 4, 4, 8, 8, 4, 8};

    private final ArrayList<Type> known;

    public LayoutDesk() {
        known = new ArrayList<>();
        for (int i = 0; i < BASIC_BYTES.length; i++) {
            int bytes = BASIC_BYTES[i];
            known.add(new Simple(BASIC, NONE, 0, bytes, Math.min(bytes, MAX_ALIGN)));
        }
    }

    public int pointer(int t) {
        if (typeAt(t) == null) {
            return -1;
        }
        int found = find(POINTER, t, 0);
        if (found != NONE) {
            return found;
        }
        if (isFull()) {
            return -2;
        }
        return enter(new Simple(POINTER, t, 0, POINTER_BYTES, POINTER_BYTES));
    }

    public int array(int t, int n) {
        Type element = typeAt(t);
        if (element == null || n < 1 || n > MAX_SIZE) {
            return -1;
        }
        if (element.bytes == 0) {
            return -2;
        }
        // Both factors may be 524288, and then an int would wrap round.
        long bytes = (long) element.bytes * n;
        if (bytes > MAX_SIZE) {
            return -3;
        }
        int found = find(ARRAY, t, n);
        if (found != NONE) {
            return found;
        }
        if (isFull()) {
            return -4;
        }
        return enter(new Simple(ARRAY, t, n, (int) bytes, element.alignment));
    }

    public int record(int kind) {
        if (kind != STRUCT && kind != UNION) {
            return -1;
        }
        if (isFull()) {
            return -2;
        }
        return enter(new Compound(kind == UNION));
    }

    public int field(int r, int t) {
        Compound owner = openRecordAt(r);
        Type type = typeAt(t);
        if (owner == null || type == null) {
            return -1;
        }
        if (type.bytes == 0) {
            return -2;
        }
        if (owner.hasAllMembers()) {
            return -3;
        }
        int place = owner.placeFor(type.alignment);
        if (place + type.bytes > MAX_SIZE) {
            return -4;
        }
        owner.endUnit();
        owner.occupy(place, type.bytes, type.alignment);
        return owner.enter(new Member(place, t, 0, 0));
    }

    public int bits(int r, int t, int width, boolean named) {
        Compound owner = openRecordAt(r);
        if (owner == null) {
            return -1;
        }
        if (!isBitFieldType(t) || width < 1 || width > UNIT_BITS) {
            return -2;
        }
        if (named && owner.hasAllMembers()) {
            return -3;
        }
        if (width > owner.freeBits && !owner.beginUnit()) {
            return -4;
        }
        int lowestBit = owner.takeBits(width);
        if (!named) {
            return NOT_NAMED;
        }
        return owner.enter(new Member(owner.unitPlace, t, lowestBit, width));
    }

    public boolean separate(int r) {
        Compound owner = openRecordAt(r);
        if (owner == null) {
            return false;
        }
        owner.endUnit();
        return true;
    }

    public int finish(int r) {
        Compound owner = openRecordAt(r);
        if (owner == null) {
            return -1;
        }
        if (owner.members.isEmpty()) {
            return -2;
        }
        int bytes = roundUp(owner.reach, owner.alignment);
        if (bytes > MAX_SIZE) {
            return -3;
        }
        owner.bytes = bytes;
        owner.open = false;
        return bytes;
    }

    public int types() {
        return known.size();
    }

    public int size(int t) {
        Type type = typeAt(t);
        return type == null ? -1 : type.bytes;
    }

    public int align(int t) {
        Type type = typeAt(t);
        return type == null ? -1 : type.alignment;
    }

    public int members(int r) {
        Compound owner = recordAt(r);
        return owner == null ? -1 : owner.members.size();
    }

    public int member(int r, int k, int what) {
        Compound owner = recordAt(r);
        if (owner == null || k < 0 || k >= owner.members.size()) {
            return -1;
        }
        Member member = owner.members.get(k);
        switch (what) {
            case 0:
                return member.place;
            case 1:
                return member.type;
            case 2:
                return member.lowestBit;
            case 3:
                return member.width;
            default:
                return -1;
        }
    }

    private boolean isFull() {
        return known.size() >= MAX_TYPES;
    }

    private int enter(Type type) {
        known.add(type);
        return known.size() - 1;
    }

    private Type typeAt(int t) {
        return t < 0 || t >= known.size() ? null : known.get(t);
    }

    private Compound recordAt(int r) {
        return typeAt(r) instanceof Compound found ? found : null;
    }

    private Compound openRecordAt(int r) {
        Compound found = recordAt(r);
        return found != null && found.open ? found : null;
    }

    private int find(int kind, int base, int length) {
        for (int i = 0; i < known.size(); i++) {
            if (known.get(i) instanceof Simple made && made.isMadeFrom(kind, base, length)) {
                return i;
            }
        }
        return NONE;
    }

    private static boolean isBitFieldType(int t) {
        return t == SIGNED_UNIT || t == UNSIGNED_UNIT;
    }

    private static int roundUp(int place, int step) {
        if (step <= 0) {
            return place;
        }
        int over = place % step;
        return over == 0 ? place : place + step - over;
    }

    /** What every type has; 0 bytes stand for a type without a size. */
    private abstract static class Type {
        int bytes;
        int alignment;

        Type(int bytes, int alignment) {
            this.bytes = bytes;
            this.alignment = alignment;
        }
    }

    /** A type that never changes: one of the first eleven, a pointer or an array. */
    private static final class Simple extends Type {
        private final int kind;
        private final int base;
        private final int length;

        Simple(int kind, int base, int length, int bytes, int alignment) {
            super(bytes, alignment);
            this.kind = kind;
            this.base = base;
            this.length = length;
        }

        boolean isMadeFrom(int otherKind, int otherBase, int otherLength) {
            return kind == otherKind && base == otherBase && length == otherLength;
        }
    }

    /** A struct or a union. */
    private static final class Compound extends Type {
        private final boolean overlaid;
        private final ArrayList<Member> members;
        private boolean open;
        private int reach;
        private int unitPlace;
        /** What the next bit-field may take of the unit; 0 if it needs a new one in any case. */
        private int freeBits;

        Compound(boolean overlaid) {
            super(0, 0);
            this.overlaid = overlaid;
            this.members = new ArrayList<>();
            this.open = true;
        }

        boolean hasAllMembers() {
            return members.size() >= MAX_MEMBERS;
        }

        int enter(Member member) {
            members.add(member);
            return members.size() - 1;
        }

        int placeFor(int step) {
            return overlaid ? 0 : roundUp(reach, step);
        }

        void occupy(int place, int length, int step) {
            reach = Math.max(reach, place + length);
            alignment = Math.max(alignment, step);
        }

        void endUnit() {
            freeBits = 0;
        }

        /** Answers false, and changes nothing, if the unit would reach too far. */
        boolean beginUnit() {
            int place = placeFor(UNIT_BYTES);
            if (place + UNIT_BYTES > MAX_SIZE) {
                return false;
            }
            occupy(place, UNIT_BYTES, UNIT_BYTES);
            unitPlace = place;
            freeBits = UNIT_BITS;
            return true;
        }

        /** Answers the lowest of the bits taken. */
        int takeBits(int width) {
            int lowest = UNIT_BITS - freeBits;
            // In a union no bit-field shares the unit of another.
            freeBits = overlaid ? 0 : freeBits - width;
            return lowest;
        }
    }

    /** Where a member stands; a plain one has width 0. */
    private static final class Member {
        private final int place;
        private final int type;
        private final int lowestBit;
        private final int width;

        Member(int place, int type, int lowestBit, int width) {
            this.place = place;
            this.type = type;
            this.lowestBit = lowestBit;
            this.width = width;
        }
    }
}
