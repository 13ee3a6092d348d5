import java.io.*;
import java.util.*;
public class Runner {
  static ShapeLang x;
  static String out(){ StringBuilder b=new StringBuilder(); int n=x.length(); for(int i=0;i*8<n;i++){ long w=x.word(i); for(int k=0;k<8&&i*8+k<n;k++) b.append((char)((w>>>(8*k))&255)); } return b.toString(); }
  public static void main(String[] a) throws Exception {
    BufferedReader r=new BufferedReader(new InputStreamReader(System.in,"ISO-8859-1"));
    PrintStream o=new PrintStream(new BufferedOutputStream(System.out,1<<16),false,"ISO-8859-1");
    String l;
    while((l=r.readLine())!=null){
      if(l.equals("N")){ x=new ShapeLang(); o.println("N"); continue; }
      if(l.startsWith("T ")){ byte[] b=l.substring(2).getBytes("ISO-8859-1"); String res="";
        try { for(int i=0;i<b.length;i+=8){ long w=0; int n=Math.min(8,b.length-i); for(int k=0;k<n;k++) w|=(b[i+k]&255L)<<(8*k); res=""+x.feed(w,n);} } catch(IllegalStateException e){res="ISE";}
        o.println(res); continue; }
      String[] p=l.split(" "); int[] v=new int[p.length]; for(int i=1;i<p.length;i++) v[i]=(int)Long.parseLong(p[i]);
      String res; boolean shows=false;
      try { long g=0; switch(p[0]){
        case "fault": g=x.fault(); break; case "length": g=x.length(); break; case "word": g=x.word(v[1]); break;
        case "put": g=x.put(v[1]); break; case "clear": g=x.clear(v[1])?1:0; break; case "show": g=x.show(v[1]); shows=true; break; case "compare": g=x.compare(v[1],v[2]); break;
        case "begin": g=x.begin(); break; case "change": g=x.change(v[1],v[2],v[3],v[4]); break; case "versions": g=x.versions(); break; case "parent": g=x.parent(v[1]); break;
        case "schema": g=x.schema(v[1]); shows=true; break; case "signature": g=x.signature(v[1]); break; case "isPlain": g=x.isPlain(v[1])?1:0; break;
        case "isOf": g=x.isOf(v[1],v[2],v[3])?1:0; break; case "witness": g=x.witness(v[1],v[2],v[3],v[4]); shows=true; break; case "common": g=x.common(v[1],v[2],v[3],v[4]); shows=true; break;
        case "least": g=x.least(v[1],v[2]); shows=true; break; case "infer": g=x.infer(v[1],v[2]); break; case "convert": g=x.convert(v[1],v[2],v[3],v[4]); break;
        case "losses": g=x.losses(v[1],v[2]); break; case "encode": g=x.encode(v[1],v[2]); shows=true; break; case "decode": g=x.decode(v[1],v[2],v[3]); break;
        case "query": g=x.query(v[1],v[2]); break; case "result": g=x.result(v[1]); shows=true; break; case "shapeOf": g=x.shapeOf(v[1]); shows=true; break; case "rewrite": g=x.rewrite(v[1],v[2]); shows=true; break;
        case "write": g=x.write(v[1],v[2]); break; case "read": g=x.read(v[1],v[2],v[3]); break; case "move": g=x.move(v[1],v[2]); break; case "versionOf": g=x.versionOf(v[1]); break;
        case "conflicts": g=x.conflicts(v[1],v[2]); break; case "merge": g=x.merge(v[1],v[2]); break; case "small": g=x.small(v[1],v[2],v[3]); break; case "putSmall": g=x.putSmall(v[1],v[2],v[3],v[4],v[5]); break;
        case "refuted": g=x.refuted(v[1],v[2],v[3],v[4],v[5]); break; case "shrink": g=x.shrink(v[1],v[2],v[3],v[4],v[5]); break;
        default: throw new RuntimeException(l); }
        res=""+g; if(shows){ StringBuilder b=new StringBuilder(); String t=out(); for(int i=0;i<t.length();i++) b.append(String.format("%02x",(int)t.charAt(i))); res+=" "+b; }
      } catch(IndexOutOfBoundsException e){ res=e.getClass()==IndexOutOfBoundsException.class?"IOOBE":e.toString(); } catch(IllegalArgumentException e){ res="IAE"; } catch(IllegalStateException e){ res="ISE"; }
      o.println(res);
    }
    o.flush();
  }
}
