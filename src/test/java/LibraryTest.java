import java.io.DataInputStream;
import java.io.IOException;
import java.io.InputStream;
import java.util.Set;
import java.util.TreeSet;

/** Rules 3, 4 and 6 of LANGUAGE.md, as the compiled classes show them: what of the library they use, and that they catch nothing. */
public final class LibraryTest {
    private static final Due due = new Due("LibraryTest");
    private static final Set<String> ALLOWED = Set.of("java/lang/Object.<init>()V", "java/lang/Math.max(II)I",
        "java/lang/Math.min(II)I", "java/lang/Math.abs(I)I", "java/util/Arrays.fill([II)V",
        "java/util/Arrays.copyOf([II)[I", "java/lang/System.arraycopy(Ljava/lang/Object;ILjava/lang/Object;II)V",
        "java/lang/String.length()I", "java/lang/String.charAt(I)C", "java/lang/String.indexOf(I)I");

    private final DataInputStream in;
    private final String name;
    private int[] tags;
    private int[] first;
    private int[] second;
    private String[] texts;

    private LibraryTest(String name, InputStream stream) {
        this.name = name;
        in = new DataInputStream(stream);
    }

    public static void main(String[] args) throws IOException {
        look(NineSail.class);
        for (Class<?> inside : NineSail.class.getDeclaredClasses()) {
            look(inside);
        }
        due.end();
    }

    private static void look(Class<?> c) throws IOException {
        try (InputStream stream = c.getResourceAsStream(c.getName() + ".class")) {
            LibraryTest one = new LibraryTest(c.getName(), stream);
            one.readPool();
            one.members();
            one.body();
        }
    }

    private void readPool() throws IOException {
        in.readInt();
        in.readInt();
        int many = in.readUnsignedShort();
        tags = new int[many];
        first = new int[many];
        second = new int[many];
        texts = new String[many];
        for (int i = 1; i < many; i++) {
            tags[i] = in.readUnsignedByte();
            switch (tags[i]) {
                case 1: texts[i] = in.readUTF(); break;
                case 3: case 4: in.readInt(); break;
                case 5: case 6: in.readLong(); i++; break;
                case 7: case 8: case 16: case 19: case 20: first[i] = in.readUnsignedShort(); break;
                case 15: in.readUnsignedByte(); second[i] = in.readUnsignedShort(); break;
                default: first[i] = in.readUnsignedShort(); second[i] = in.readUnsignedShort(); break;
            }
        }
    }

    /** Each field and method of another class that the class names is its own, or one of the list. */
    private void members() {
        due.promise("rules 2, 4");
        Set<String> outside = new TreeSet<>();
        for (int i = 1; i < tags.length; i++) {
            due.holds(name + " has no lambda, and joins no texts by +", tags[i] < 15 || tags[i] > 18);
            if (tags[i] >= 9 && tags[i] <= 11) {
                String owner = texts[first[first[i]]];
                int member = second[i];
                if (!owner.equals("NineSail") && !owner.startsWith("NineSail$")) {
                    outside.add(owner + "." + texts[first[member]] + texts[second[member]]);
                }
            }
        }
        for (String member : outside) {
            due.holds(name + " uses " + member + ", which is of the list", ALLOWED.contains(member));
        }
    }

    private void body() throws IOException {
        due.promise("rule 6");
        in.skipNBytes(6);
        in.skipNBytes(2L * in.readUnsignedShort());
        int fields = in.readUnsignedShort();
        for (int i = 0; i < fields; i++) {
            member();
        }
        int methods = in.readUnsignedShort();
        for (int i = 0; i < methods; i++) {
            member();
        }
    }

    private void member() throws IOException {
        in.skipNBytes(2);
        String called = texts[in.readUnsignedShort()];
        in.skipNBytes(2);
        int attributes = in.readUnsignedShort();
        for (int i = 0; i < attributes; i++) {
            String attribute = texts[in.readUnsignedShort()];
            int length = in.readInt();
            if (attribute.equals("Code")) {
                code(called, length);
            } else {
                in.skipNBytes(length);
            }
        }
        due.holds(name + " has no static initialiser that is more than constants and arrays",
            !called.equals("<clinit>") || name.equals("NineSail"));
    }

    private void code(String called, int length) throws IOException {
        in.skipNBytes(4);
        int bytes = in.readInt();
        in.skipNBytes(bytes);
        int caught = in.readUnsignedShort();
        due.is("what " + name + "." + called + " catches", caught, 0);
        in.skipNBytes(length - 4 - 4 - bytes - 2);
    }
}
